theorem i32_in2 {q c : Int32} {n : Nat} (h : 0 ≤ q ∧ q ≤ c - 1) (hn : c = nI n) (h8 : n ≤ 8) : q.toNatClampNeg < n ∧ q = nI q.toNatClampNeg := by
  obtain ⟨h1, h2⟩ := h
  obtain ⟨j, hj, rfl⟩ := nI_of (x := q) (by simpa using h1)
  rw [nI_clamp hj]
  rcases Nat.eq_zero_or_pos n with z | z
  · subst z; rw [hn] at h2
    simp only [Int32.le_iff_toInt_le] at h2
    rw [nI_toInt hj, show (nI 0 - 1).toInt = -1 from rfl] at h2
    omega
  · rw [hn, nI_m1 z, nI_leI hj (by omega)] at h2
    exact ⟨by omega, rfl⟩
def maS (g : Nat → Int32) : Nat → Int32
  | 0 => 0
  | k + 1 => maS g k ||| ((if alarmB (g (1 + 4 * k + 1)) (g (1 + 4 * k + 2)) (g (1 + 4 * k + 3)) = true then 1 else 0) <<< (nI k &&& 31))
def waS (g : Nat → Int32) (act q t : Int32) : Nat → Int32
  | 0 => 1
  | k + 1 => if ((act >>> (nI k &&& 31)) &&& 1) = 1 ∧ ¬ ((g (1 + 4 * k + 0) >>> (q &&& 31)) &&& 1) = t then 0 else waS g act q t k
theorem waS_s (g : Nat → Int32) (act q t : Int32) (k : Nat) : waS g act q t (k + 1) = if ((act >>> (nI k &&& 31)) &&& 1) = 1 ∧ ¬ ((g (1 + 4 * k + 0) >>> (q &&& 31)) &&& 1) = t then 0 else waS g act q t k := rfl
def resetG (g : Nat → Int32) : Nat → Int32 := upd (upd (upd (upd g 33 0) 34 (-1)) 35 (-1)) 36 0
/-- the places from K up to k taken from 4 further on -/
def shF (f : Nat → Int32) (K k : Nat) : Nat → Int32 := fun j => if K ≤ j ∧ j < k then f (j + 4) else f j
theorem shF_0 (f : Nat → Int32) (K : Nat) : f = shF f K K := by funext j; unfold shF; rw [if_neg (by omega)]
theorem shF_s (f : Nat → Int32) {K k : Nat} (h : K ≤ k) : upd (shF f K k) k (shF f K k (k + 4)) = shF f K (k + 1) := by
  funext j
  unfold upd shF
  by_cases e : j = k
  · subst e; rw [if_pos rfl, if_neg (by omega), if_pos ⟨h, Nat.lt_succ_self _⟩]
  · rw [if_neg e]
    by_cases e2 : K ≤ j ∧ j < k
    · rw [if_pos e2, if_pos ⟨e2.1, by omega⟩]
    · rw [if_neg e2, if_neg (by omega)]
def romP (fam ser : Int32) : Int32 := (fam ||| (ser <<< (4 &&& 31))) ||| (crcP (fam ||| (ser <<< (4 &&& 31))) <<< (12 &&& 31))
def mAddR (g : Nat → Int32) (fam ser : Int32) (n : Nat) : Int32 := if 0 ≤ fam ∧ fam ≤ 15 then (if 0 ≤ ser ∧ ser ≤ 255 then (if hasS (fun k => g (1 + 4 * k + 0)) (romP fam ser) n = true then (-3) else (if (g 0) = 8 then (-4) else (((g 0) + 1) - 1))) else (-2)) else (-2)
def mAddG (g : Nat → Int32) (fam ser : Int32) (n : Nat) : Nat → Int32 := if 0 ≤ fam ∧ fam ≤ 15 then (if 0 ≤ ser ∧ ser ≤ 255 then (if hasS (fun k => g (1 + 4 * k + 0)) (romP fam ser) n = true then g else (if (g 0) = 8 then g else upd (upd (upd (upd (upd g (1 + 4 * n) (romP fam ser)) (1 + 4 * n + 1) 0) (1 + 4 * n + 2) 0) (1 + 4 * n + 3) 0) 0 ((g 0) + 1))) else g) else g
def mRemR (g : Nat → Int32) (q : Int32) (n : Nat) : Int32 := if 0 ≤ q ∧ q ≤ (g 0) - 1 then nI (n - 1) else (-2)
def mRemG (g : Nat → Int32) (q : Int32) (n : Nat) : Nat → Int32 := if 0 ≤ q ∧ q ≤ (g 0) - 1 then shF (upd g 0 ((g 0) - 1)) (1 + 4 * q.toNatClampNeg) (1 + 4 * (n - 1)) else g
set_option maxHeartbeats 4000000 in
set_option maxRecDepth 100000 in
theorem c_X6_doAdd (l : Launch) (E : gE) (g : Nat → Nat) (y : Nat → Nat → Int32) (z : Int64) (fam : Int32) (ser : Int32) (n : Nat) (hn : y 0 0 = nI n) (h8 : n ≤ 8) : CtI l E yX6_doAdd prog_8_method_16_code 6 (some .int) 1 23 0 0 [.ref (g 0), .int fam, .int ser] [((g 0), .inr (6, [.ref (g 1), .ref (g 2), .ref (g 3), .int (y 7 0), .ref (g 4), .int (y 7 1), .ref (g 5), .int (y 7 2), .int (y 7 3), .int (y 7 4), .int (y 7 5), .ref (g 6), .ref (g 7), .long z])), ((g 1), .inl (E.2.1, 47, .inl (y 0))), ((g 2), .inl (E.2.1, 47, .inl (y 1))), ((g 3), .inl (E.2.1, 235, .inl (y 2))), ((g 4), .inl (E.2.1, 8, .inl (y 3))), ((g 5), .inl (E.2.1, 120, .inl (y 4))), ((g 6), .inl (E.2.1, 60, .inl (y 5))), ((g 7), .inl (E.2.1, 180, .inl (y 6)))] (fun r (_ : Unit) => r = (mAddR (y 0) fam ser n)) (fun _ => [((g 0), .inr (6, [.ref (g 1), .ref (g 2), .ref (g 3), .int (y 7 0), .ref (g 4), .int (y 7 1), .ref (g 5), .int (y 7 2), .int (y 7 3), .int (y 7 4), .int (y 7 5), .ref (g 6), .ref (g 7), .long z])), ((g 1), .inl (E.2.1, 47, .inl (mAddG (y 0) fam ser n))), ((g 2), .inl (E.2.1, 47, .inl (y 1))), ((g 3), .inl (E.2.1, 235, .inl (y 2))), ((g 4), .inl (E.2.1, 8, .inl (y 3))), ((g 5), .inl (E.2.1, 120, .inl (y 4))), ((g 6), .inl (E.2.1, 60, .inl (y 5))), ((g 7), .inl (E.2.1, 180, .inl (y 6)))]) := by
  refine CtI.start (by decide) (Nat.le_of_ble_eq_true rfl) ?_
  intro p_ e_ s_ m_ below_ meth_ c_ A_ C hr hlocks hnm
  refine Wd.cast (lv1 := [(0, .ref (g 0)), (1, .int fam), (2, .int ser)]) rfl rfl rfl ?_
  refine x_iload_n C dX6_doAdd_0 1 rfl ?_
  refine x_iconst (v := 0) C dX6_doAdd_1 (by decide) ?_
  refine x_bipush (v := 15) C dX6_doAdd_2 (by decide) ?_
  refine x_callSI (wc := []) (wr := [((g 0), .inr (6, [.ref (g 1), .ref (g 2), .ref (g 3), .int (y 7 0), .ref (g 4), .int (y 7 1), .ref (g 5), .int (y 7 2), .int (y 7 3), .int (y 7 4), .int (y 7 5), .ref (g 6), .ref (g 7), .long z])), ((g 1), .inl (E.2.1, 47, .inl (y 0))), ((g 2), .inl (E.2.1, 47, .inl (y 1))), ((g 3), .inl (E.2.1, 235, .inl (y 2))), ((g 4), .inl (E.2.1, 8, .inl (y 3))), ((g 5), .inl (E.2.1, 120, .inl (y 4))), ((g 6), .inl (E.2.1, 60, .inl (y 5))), ((g 7), .inl (E.2.1, 180, .inl (y 6)))]) (As := [.int fam, .int 0, .int 15]) (rest := []) C (c_X6_in l E fam 0 15 ) (gWS C kw_ml_X6_35 kw_st_X6_in kw_ini_X6 kw_code_X6_in ga_X6_in ⟨Nat.le_of_ble_eq_true rfl, Nat.le_of_ble_eq_true rfl⟩) [] [0, 1, 2, 3, 4, 5, 6, 7] [0, 1, 2, 3, 4, 5, 6, 7] rfl rfl rfl rfl (by decide) (fun _ => [((g 0), .inr (6, [.ref (g 1), .ref (g 2), .ref (g 3), .int (y 7 0), .ref (g 4), .int (y 7 1), .ref (g 5), .int (y 7 2), .int (y 7 3), .int (y 7 4), .int (y 7 5), .ref (g 6), .ref (g 7), .long z])), ((g 1), .inl (E.2.1, 47, .inl (y 0))), ((g 2), .inl (E.2.1, 47, .inl (y 1))), ((g 3), .inl (E.2.1, 235, .inl (y 2))), ((g 4), .inl (E.2.1, 8, .inl (y 3))), ((g 5), .inl (E.2.1, 120, .inl (y 4))), ((g 6), .inl (E.2.1, 60, .inl (y 5))), ((g 7), .inl (E.2.1, 180, .inl (y 6)))]) rfl (fun _ => rfl) rfl (Nat.le_of_ble_eq_true rfl) ⟨Nat.le_of_ble_eq_true rfl, Nat.le_of_ble_eq_true rfl⟩ rfl dX6_doAdd_4 (fun r_1 _ e_2 => ?_)
  subst e_2
  refine x_ifB_eq (tgt := 21) C dX6_doAdd_7 (by decide) (fun c_7 => ?_) (fun c_7 => ?_)
  · refine x_bipush (v := (-2)) C dX6_doAdd_21 (by decide) ?_
    exact x_iret C hr hlocks rfl () (Eq.symm (by unfold mAddR; rw [if_neg c_7])) (by rw [show mAddG (y 0) fam ser n = (y 0) from (by unfold mAddG; rw [if_neg c_7])]; exact gEq.rf _) dX6_doAdd_23
  · refine x_iload_n C dX6_doAdd_10 2 rfl ?_
    refine x_iconst (v := 0) C dX6_doAdd_11 (by decide) ?_
    refine x_sipush (v := 255) C dX6_doAdd_12 (by decide) ?_
    refine x_callSI (wc := []) (wr := [((g 0), .inr (6, [.ref (g 1), .ref (g 2), .ref (g 3), .int (y 7 0), .ref (g 4), .int (y 7 1), .ref (g 5), .int (y 7 2), .int (y 7 3), .int (y 7 4), .int (y 7 5), .ref (g 6), .ref (g 7), .long z])), ((g 1), .inl (E.2.1, 47, .inl (y 0))), ((g 2), .inl (E.2.1, 47, .inl (y 1))), ((g 3), .inl (E.2.1, 235, .inl (y 2))), ((g 4), .inl (E.2.1, 8, .inl (y 3))), ((g 5), .inl (E.2.1, 120, .inl (y 4))), ((g 6), .inl (E.2.1, 60, .inl (y 5))), ((g 7), .inl (E.2.1, 180, .inl (y 6)))]) (As := [.int ser, .int 0, .int 255]) (rest := []) C (c_X6_in l E ser 0 255 ) (gWS C kw_ml_X6_35 kw_st_X6_in kw_ini_X6 kw_code_X6_in ga_X6_in ⟨Nat.le_of_ble_eq_true rfl, Nat.le_of_ble_eq_true rfl⟩) [] [0, 1, 2, 3, 4, 5, 6, 7] [0, 1, 2, 3, 4, 5, 6, 7] rfl rfl rfl rfl (by decide) (fun _ => [((g 0), .inr (6, [.ref (g 1), .ref (g 2), .ref (g 3), .int (y 7 0), .ref (g 4), .int (y 7 1), .ref (g 5), .int (y 7 2), .int (y 7 3), .int (y 7 4), .int (y 7 5), .ref (g 6), .ref (g 7), .long z])), ((g 1), .inl (E.2.1, 47, .inl (y 0))), ((g 2), .inl (E.2.1, 47, .inl (y 1))), ((g 3), .inl (E.2.1, 235, .inl (y 2))), ((g 4), .inl (E.2.1, 8, .inl (y 3))), ((g 5), .inl (E.2.1, 120, .inl (y 4))), ((g 6), .inl (E.2.1, 60, .inl (y 5))), ((g 7), .inl (E.2.1, 180, .inl (y 6)))]) rfl (fun _ => rfl) rfl (Nat.le_of_ble_eq_true rfl) ⟨Nat.le_of_ble_eq_true rfl, Nat.le_of_ble_eq_true rfl⟩ rfl dX6_doAdd_15 (fun r_3 _ e_4 => ?_)
    subst e_4
    refine x_ifB_ne (tgt := 24) C dX6_doAdd_18 (by decide) (fun c_18 => ?_) (fun c_18 => ?_)
    · refine x_iload_n C dX6_doAdd_24 1 rfl ?_
      refine x_iload_n C dX6_doAdd_25 2 rfl ?_
      refine x_iconst (v := 4) C dX6_doAdd_26 (by decide) ?_
      refine x_ishl C dX6_doAdd_27 ?_
      refine x_ior C dX6_doAdd_28 ?_
      refine x_istore_n (lv1 := [(3, .int (fam ||| (ser <<< (4 &&& 31)))), (0, .ref (g 0)), (1, .int fam), (2, .int ser)]) C dX6_doAdd_29 (by decide) rfl ?_
      refine x_iload_n C dX6_doAdd_30 0 rfl ?_
      refine x_iload_n C dX6_doAdd_31 0 rfl ?_
      refine x_callSI (wc := []) (wr := [((g 0), .inr (6, [.ref (g 1), .ref (g 2), .ref (g 3), .int (y 7 0), .ref (g 4), .int (y 7 1), .ref (g 5), .int (y 7 2), .int (y 7 3), .int (y 7 4), .int (y 7 5), .ref (g 6), .ref (g 7), .long z])), ((g 1), .inl (E.2.1, 47, .inl (y 0))), ((g 2), .inl (E.2.1, 47, .inl (y 1))), ((g 3), .inl (E.2.1, 235, .inl (y 2))), ((g 4), .inl (E.2.1, 8, .inl (y 3))), ((g 5), .inl (E.2.1, 120, .inl (y 4))), ((g 6), .inl (E.2.1, 60, .inl (y 5))), ((g 7), .inl (E.2.1, 180, .inl (y 6)))]) (As := [.int (fam ||| (ser <<< (4 &&& 31)))]) (rest := [.int (fam ||| (ser <<< (4 &&& 31)))]) C (c_X6_crcOf l E (fam ||| (ser <<< (4 &&& 31))) ) (gWS C kw_ml_X6_50 kw_st_X6_crcOf kw_ini_X6 kw_code_X6_crcOf ga_X6_crcOf ⟨Nat.le_of_ble_eq_true rfl, Nat.le_of_ble_eq_true rfl⟩) [] [0, 1, 2, 3, 4, 5, 6, 7] [0, 1, 2, 3, 4, 5, 6, 7] rfl rfl rfl rfl (by decide) (fun _ => [((g 0), .inr (6, [.ref (g 1), .ref (g 2), .ref (g 3), .int (y 7 0), .ref (g 4), .int (y 7 1), .ref (g 5), .int (y 7 2), .int (y 7 3), .int (y 7 4), .int (y 7 5), .ref (g 6), .ref (g 7), .long z])), ((g 1), .inl (E.2.1, 47, .inl (y 0))), ((g 2), .inl (E.2.1, 47, .inl (y 1))), ((g 3), .inl (E.2.1, 235, .inl (y 2))), ((g 4), .inl (E.2.1, 8, .inl (y 3))), ((g 5), .inl (E.2.1, 120, .inl (y 4))), ((g 6), .inl (E.2.1, 60, .inl (y 5))), ((g 7), .inl (E.2.1, 180, .inl (y 6)))]) rfl (fun _ => rfl) rfl (Nat.le_of_ble_eq_true rfl) ⟨Nat.le_of_ble_eq_true rfl, Nat.le_of_ble_eq_true rfl⟩ rfl dX6_doAdd_32 (fun r_5 _ e_6 => ?_)
      subst e_6
      refine x_bipush (v := 12) C dX6_doAdd_35 (by decide) ?_
      refine x_ishl C dX6_doAdd_37 ?_
      refine x_ior C dX6_doAdd_38 ?_
      refine Wd.cast (w1 := [((g 0), .inr (6, [.ref (g 1), .ref (g 2), .ref (g 3), .int (y 7 0), .ref (g 4), .int (y 7 1), .ref (g 5), .int (y 7 2), .int (y 7 3), .int (y 7 4), .int (y 7 5), .ref (g 6), .ref (g 7), .long z])), ((g 1), .inl (E.2.1, 47, .inl (y 0))), ((g 2), .inl (E.2.1, 47, .inl (y 1))), ((g 3), .inl (E.2.1, 235, .inl (y 2))), ((g 4), .inl (E.2.1, 8, .inl (y 3))), ((g 5), .inl (E.2.1, 120, .inl (y 4))), ((g 6), .inl (E.2.1, 60, .inl (y 5))), ((g 7), .inl (E.2.1, 180, .inl (y 6)))]) (lv1 := [(3, .int (fam ||| (ser <<< (4 &&& 31)))), (0, .ref (g 0)), (1, .int fam), (2, .int ser)]) (st1 := [.int (romP fam ser)]) rfl rfl rfl ?_
      refine x_istore (lv1 := [(4, .int (romP fam ser)), (3, .int (fam ||| (ser <<< (4 &&& 31)))), (0, .ref (g 0)), (1, .int fam), (2, .int ser)]) C dX6_doAdd_39 (by decide) rfl ?_
      refine x_iconst (v := 0) C dX6_doAdd_41 (by decide) ?_
      refine x_istore (lv1 := [(5, .int 0), (4, .int (romP fam ser)), (3, .int (fam ||| (ser <<< (4 &&& 31)))), (0, .ref (g 0)), (1, .int fam), (2, .int ser)]) C dX6_doAdd_42 (by decide) rfl ?_
      refine Wd.locs (lv1 := [(0, .ref (g 0)), (1, .int fam), (2, .int ser), (3, .int (fam ||| (ser <<< (4 &&& 31)))), (4, .int (romP fam ser)), (5, .int 0)]) [3, 4, 5, 2, 1, 0] rfl ?_
      refine Wd.cast (w1 := [((g 0), .inr (6, [.ref (g 1), .ref (g 2), .ref (g 3), .int (y 7 0), .ref (g 4), .int (y 7 1), .ref (g 5), .int (y 7 2), .int (y 7 3), .int (y 7 4), .int (y 7 5), .ref (g 6), .ref (g 7), .long z])), ((g 1), .inl (E.2.1, 47, .inl (y 0))), ((g 2), .inl (E.2.1, 47, .inl (y 1))), ((g 3), .inl (E.2.1, 235, .inl (y 2))), ((g 4), .inl (E.2.1, 8, .inl (y 3))), ((g 5), .inl (E.2.1, 120, .inl (y 4))), ((g 6), .inl (E.2.1, 60, .inl (y 5))), ((g 7), .inl (E.2.1, 180, .inl (y 6)))]) (lv1 := [(0, .ref (g 0)), (1, .int fam), (2, .int ser), (3, .int (fam ||| (ser <<< (4 &&& 31)))), (4, .int (romP fam ser)), (5, .int (nI 0))]) rfl rfl rfl ?_
      refine Wd.up (W1 := fun k => [((g 0), .inr (6, [.ref (g 1), .ref (g 2), .ref (g 3), .int (y 7 0), .ref (g 4), .int (y 7 1), .ref (g 5), .int (y 7 2), .int (y 7 3), .int (y 7 4), .int (y 7 5), .ref (g 6), .ref (g 7), .long z])), ((g 1), .inl (E.2.1, 47, .inl (y 0))), ((g 2), .inl (E.2.1, 47, .inl (y 1))), ((g 3), .inl (E.2.1, 235, .inl (y 2))), ((g 4), .inl (E.2.1, 8, .inl (y 3))), ((g 5), .inl (E.2.1, 120, .inl (y 4))), ((g 6), .inl (E.2.1, 60, .inl (y 5))), ((g 7), .inl (E.2.1, 180, .inl (y 6)))]) (LV := fun k => [(0, .ref (g 0)), (1, .int fam), (2, .int ser), (3, .int (fam ||| (ser <<< (4 &&& 31)))), (4, .int (romP fam ser)), (5, .int (nI k))]) (fun k => hasS (fun k => y 0 (1 + 4 * k + 0)) (romP fam ser) k = false) 0 n (by omega) (rfl) (fun hI => ?_) (fun k hk0 hk hI ih => ?_)
      · refine Wd.cast (w1 := [((g 0), .inr (6, [.ref (g 1), .ref (g 2), .ref (g 3), .int (y 7 0), .ref (g 4), .int (y 7 1), .ref (g 5), .int (y 7 2), .int (y 7 3), .int (y 7 4), .int (y 7 5), .ref (g 6), .ref (g 7), .long z])), ((g 1), .inl (E.2.1, 47, .inl (y 0))), ((g 2), .inl (E.2.1, 47, .inl (y 1))), ((g 3), .inl (E.2.1, 235, .inl (y 2))), ((g 4), .inl (E.2.1, 8, .inl (y 3))), ((g 5), .inl (E.2.1, 120, .inl (y 4))), ((g 6), .inl (E.2.1, 60, .inl (y 5))), ((g 7), .inl (E.2.1, 180, .inl (y 6)))]) (lv1 := [(0, .ref (g 0)), (1, .int fam), (2, .int ser), (3, .int (fam ||| (ser <<< (4 &&& 31)))), (4, .int (romP fam ser)), (5, .int (nI n))]) rfl rfl rfl ?_
        refine x_iload C dX6_doAdd_44 5 rfl ?_
        refine x_aload_n C dX6_doAdd_46 0 rfl ?_
        refine x_get (ref := "RomSearchBusModel") (v := .ref (g 1)) C inX6 0 0 rfl rfl (by decide) kw_fl_X6_7 rfl rfl dX6_doAdd_47 ?_
        refine x_iconst (v := 0) C dX6_doAdd_50 (by decide) ?_
        refine x_ialdN (K := 0) (x := (y 0 0)) C 1 rfl (by decide) (by decide) (by decide) rfl dX6_doAdd_51 ?_
        refine x_icmp_ge (tgt := 76) C dX6_doAdd_52 (by decide) (fun c_52 => ?_) (fun c_52 => absurd (by rw [hn]; exact Int32.le_refl _) c_52)
        refine x_aload_n C dX6_doAdd_76 0 rfl ?_
        refine x_get (ref := "RomSearchBusModel") (v := .ref (g 1)) C inX6 0 0 rfl rfl (by decide) kw_fl_X6_7 rfl rfl dX6_doAdd_77 ?_
        refine x_iconst (v := 0) C dX6_doAdd_80 (by decide) ?_
        refine x_ialdN (K := 0) (x := (y 0 0)) C 1 rfl (by decide) (by decide) (by decide) rfl dX6_doAdd_81 ?_
        refine x_bipush (v := 8) C dX6_doAdd_82 (by decide) ?_
        refine x_icmp_ne (tgt := 90) C dX6_doAdd_84 (by decide) (fun c_84 => ?_) (fun c_84 => ?_)
        · have hn8 : n < 8 := by
            rcases Nat.lt_or_ge n 8 with z0 | z0
            · exact z0
            · exact absurd (show y 0 0 = nI 8 by rw [hn, show n = 8 by omega]) c_84
          refine x_iconst (v := 1) C dX6_doAdd_90 (by decide) ?_
          refine x_iconst (v := 4) C dX6_doAdd_91 (by decide) ?_
          refine x_aload_n C dX6_doAdd_92 0 rfl ?_
          refine x_get (ref := "RomSearchBusModel") (v := .ref (g 1)) C inX6 0 0 rfl rfl (by decide) kw_fl_X6_7 rfl rfl dX6_doAdd_93 ?_
          refine x_iconst (v := 0) C dX6_doAdd_96 (by decide) ?_
          refine x_ialdN (K := 0) (x := (y 0 0)) C 1 rfl (by decide) (by decide) (by decide) rfl dX6_doAdd_97 ?_
          refine x_imul C dX6_doAdd_98 ?_
          refine x_iadd C dX6_doAdd_99 ?_
          refine x_istore (lv1 := [(5, .int (1 + (4 * (y 0 0)))), (0, .ref (g 0)), (1, .int fam), (2, .int ser), (3, .int (fam ||| (ser <<< (4 &&& 31)))), (4, .int (romP fam ser))]) C dX6_doAdd_100 (by decide) rfl ?_
          refine x_aload_n C dX6_doAdd_102 1 rfl ?_
          refine x_get (ref := "RomSearchBusModel") (v := .ref (g 1)) C inX6 0 0 rfl rfl (by decide) kw_fl_X6_7 rfl rfl dX6_doAdd_103 ?_
          refine x_iload C dX6_doAdd_106 0 rfl ?_
          refine x_iload C dX6_doAdd_108 5 rfl ?_
          refine x_iastN (K := (1 + 4 * n)) C 1 rfl (by rw [hn]; exact ixE n) (by omega) (by decide) [((g 0), .inr (6, [.ref (g 1), .ref (g 2), .ref (g 3), .int (y 7 0), .ref (g 4), .int (y 7 1), .ref (g 5), .int (y 7 2), .int (y 7 3), .int (y 7 4), .int (y 7 5), .ref (g 6), .ref (g 7), .long z])), ((g 1), .inl (E.2.1, 47, .inl (upd (y 0) (1 + 4 * n) (romP fam ser)))), ((g 2), .inl (E.2.1, 47, .inl (y 1))), ((g 3), .inl (E.2.1, 235, .inl (y 2))), ((g 4), .inl (E.2.1, 8, .inl (y 3))), ((g 5), .inl (E.2.1, 120, .inl (y 4))), ((g 6), .inl (E.2.1, 60, .inl (y 5))), ((g 7), .inl (E.2.1, 180, .inl (y 6)))] rfl dX6_doAdd_110 ?_
          refine x_aload_n C dX6_doAdd_111 1 rfl ?_
          refine x_get (ref := "RomSearchBusModel") (v := .ref (g 1)) C inX6 0 0 rfl rfl (by decide) kw_fl_X6_7 rfl rfl dX6_doAdd_112 ?_
          refine x_iload C dX6_doAdd_115 0 rfl ?_
          refine x_iconst (v := 1) C dX6_doAdd_117 (by decide) ?_
          refine x_iadd C dX6_doAdd_118 ?_
          refine x_iconst (v := 0) C dX6_doAdd_119 (by decide) ?_
          refine x_iastN (K := (1 + 4 * n + 1)) C 1 rfl (by rw [hn]; exact ixD n 1) (by omega) (by decide) [((g 0), .inr (6, [.ref (g 1), .ref (g 2), .ref (g 3), .int (y 7 0), .ref (g 4), .int (y 7 1), .ref (g 5), .int (y 7 2), .int (y 7 3), .int (y 7 4), .int (y 7 5), .ref (g 6), .ref (g 7), .long z])), ((g 1), .inl (E.2.1, 47, .inl (upd (upd (y 0) (1 + 4 * n) (romP fam ser)) (1 + 4 * n + 1) 0))), ((g 2), .inl (E.2.1, 47, .inl (y 1))), ((g 3), .inl (E.2.1, 235, .inl (y 2))), ((g 4), .inl (E.2.1, 8, .inl (y 3))), ((g 5), .inl (E.2.1, 120, .inl (y 4))), ((g 6), .inl (E.2.1, 60, .inl (y 5))), ((g 7), .inl (E.2.1, 180, .inl (y 6)))] rfl dX6_doAdd_120 ?_
          refine x_aload_n C dX6_doAdd_121 1 rfl ?_
          refine x_get (ref := "RomSearchBusModel") (v := .ref (g 1)) C inX6 0 0 rfl rfl (by decide) kw_fl_X6_7 rfl rfl dX6_doAdd_122 ?_
          refine x_iload C dX6_doAdd_125 0 rfl ?_
          refine x_iconst (v := 2) C dX6_doAdd_127 (by decide) ?_
          refine x_iadd C dX6_doAdd_128 ?_
          refine x_iconst (v := 0) C dX6_doAdd_129 (by decide) ?_
          refine x_iastN (K := (1 + 4 * n + 2)) C 1 rfl (by rw [hn]; exact ixD n 2) (by omega) (by decide) [((g 0), .inr (6, [.ref (g 1), .ref (g 2), .ref (g 3), .int (y 7 0), .ref (g 4), .int (y 7 1), .ref (g 5), .int (y 7 2), .int (y 7 3), .int (y 7 4), .int (y 7 5), .ref (g 6), .ref (g 7), .long z])), ((g 1), .inl (E.2.1, 47, .inl (upd (upd (upd (y 0) (1 + 4 * n) (romP fam ser)) (1 + 4 * n + 1) 0) (1 + 4 * n + 2) 0))), ((g 2), .inl (E.2.1, 47, .inl (y 1))), ((g 3), .inl (E.2.1, 235, .inl (y 2))), ((g 4), .inl (E.2.1, 8, .inl (y 3))), ((g 5), .inl (E.2.1, 120, .inl (y 4))), ((g 6), .inl (E.2.1, 60, .inl (y 5))), ((g 7), .inl (E.2.1, 180, .inl (y 6)))] rfl dX6_doAdd_130 ?_
          refine x_aload_n C dX6_doAdd_131 1 rfl ?_
          refine x_get (ref := "RomSearchBusModel") (v := .ref (g 1)) C inX6 0 0 rfl rfl (by decide) kw_fl_X6_7 rfl rfl dX6_doAdd_132 ?_
          refine x_iload C dX6_doAdd_135 0 rfl ?_
          refine x_iconst (v := 3) C dX6_doAdd_137 (by decide) ?_
          refine x_iadd C dX6_doAdd_138 ?_
          refine x_iconst (v := 0) C dX6_doAdd_139 (by decide) ?_
          refine x_iastN (K := (1 + 4 * n + 3)) C 1 rfl (by rw [hn]; exact ixD n 3) (by omega) (by decide) [((g 0), .inr (6, [.ref (g 1), .ref (g 2), .ref (g 3), .int (y 7 0), .ref (g 4), .int (y 7 1), .ref (g 5), .int (y 7 2), .int (y 7 3), .int (y 7 4), .int (y 7 5), .ref (g 6), .ref (g 7), .long z])), ((g 1), .inl (E.2.1, 47, .inl (upd (upd (upd (upd (y 0) (1 + 4 * n) (romP fam ser)) (1 + 4 * n + 1) 0) (1 + 4 * n + 2) 0) (1 + 4 * n + 3) 0))), ((g 2), .inl (E.2.1, 47, .inl (y 1))), ((g 3), .inl (E.2.1, 235, .inl (y 2))), ((g 4), .inl (E.2.1, 8, .inl (y 3))), ((g 5), .inl (E.2.1, 120, .inl (y 4))), ((g 6), .inl (E.2.1, 60, .inl (y 5))), ((g 7), .inl (E.2.1, 180, .inl (y 6)))] rfl dX6_doAdd_140 ?_
          refine x_aload_n C dX6_doAdd_141 1 rfl ?_
          refine x_get (ref := "RomSearchBusModel") (v := .ref (g 1)) C inX6 0 0 rfl rfl (by decide) kw_fl_X6_7 rfl rfl dX6_doAdd_142 ?_
          refine x_iconst (v := 0) C dX6_doAdd_145 (by decide) ?_
          refine x_dup2 C dX6_doAdd_146 rfl rfl ?_
          refine x_ialdN (K := 0) (x := (y 0 0)) C 1 rfl (by decide) (by decide) (by decide) (by simp only [upd]; rw [if_neg (by omega), if_neg (by omega), if_neg (by omega), if_neg (by omega)]) dX6_doAdd_147 ?_
          refine x_iconst (v := 1) C dX6_doAdd_148 (by decide) ?_
          refine x_iadd C dX6_doAdd_149 ?_
          refine x_iastN (K := 0) C 1 rfl (by decide) (by decide) (by decide) [((g 0), .inr (6, [.ref (g 1), .ref (g 2), .ref (g 3), .int (y 7 0), .ref (g 4), .int (y 7 1), .ref (g 5), .int (y 7 2), .int (y 7 3), .int (y 7 4), .int (y 7 5), .ref (g 6), .ref (g 7), .long z])), ((g 1), .inl (E.2.1, 47, .inl (upd (upd (upd (upd (upd (y 0) (1 + 4 * n) (romP fam ser)) (1 + 4 * n + 1) 0) (1 + 4 * n + 2) 0) (1 + 4 * n + 3) 0) 0 ((y 0 0) + 1)))), ((g 2), .inl (E.2.1, 47, .inl (y 1))), ((g 3), .inl (E.2.1, 235, .inl (y 2))), ((g 4), .inl (E.2.1, 8, .inl (y 3))), ((g 5), .inl (E.2.1, 120, .inl (y 4))), ((g 6), .inl (E.2.1, 60, .inl (y 5))), ((g 7), .inl (E.2.1, 180, .inl (y 6)))] rfl dX6_doAdd_150 ?_
          refine x_aload_n C dX6_doAdd_151 1 rfl ?_
          refine x_get (ref := "RomSearchBusModel") (v := .ref (g 1)) C inX6 0 0 rfl rfl (by decide) kw_fl_X6_7 rfl rfl dX6_doAdd_152 ?_
          refine x_iconst (v := 0) C dX6_doAdd_155 (by decide) ?_
          refine x_ialdN (K := 0) (x := ((y 0 0) + 1)) C 1 rfl (by decide) (by decide) (by decide) rfl dX6_doAdd_156 ?_
          refine x_iconst (v := 1) C dX6_doAdd_157 (by decide) ?_
          refine x_isub C dX6_doAdd_158 ?_
          exact x_iret C hr hlocks rfl () (Eq.symm (by unfold mAddR; rw [if_pos c_7, if_pos c_18, if_neg (by rw [hI]; exact Bool.false_ne_true), if_neg c_84])) (by rw [show mAddG (y 0) fam ser n = (upd (upd (upd (upd (upd (y 0) (1 + 4 * n) (romP fam ser)) (1 + 4 * n + 1) 0) (1 + 4 * n + 2) 0) (1 + 4 * n + 3) 0) 0 ((y 0 0) + 1)) from (by unfold mAddG; rw [if_pos c_7, if_pos c_18, if_neg (by rw [hI]; exact Bool.false_ne_true), if_neg c_84])]; exact gEq.rf _) dX6_doAdd_159
        · refine x_bipush (v := (-4)) C dX6_doAdd_87 (by decide) ?_
          exact x_iret C hr hlocks rfl () (Eq.symm (by unfold mAddR; rw [if_pos c_7, if_pos c_18, if_neg (by rw [hI]; exact Bool.false_ne_true), if_pos c_84])) (by rw [show mAddG (y 0) fam ser n = (y 0) from (by unfold mAddG; rw [if_pos c_7, if_pos c_18, if_neg (by rw [hI]; exact Bool.false_ne_true), if_pos c_84])]; exact gEq.rf _) dX6_doAdd_89
      · refine Wd.cast (w1 := [((g 0), .inr (6, [.ref (g 1), .ref (g 2), .ref (g 3), .int (y 7 0), .ref (g 4), .int (y 7 1), .ref (g 5), .int (y 7 2), .int (y 7 3), .int (y 7 4), .int (y 7 5), .ref (g 6), .ref (g 7), .long z])), ((g 1), .inl (E.2.1, 47, .inl (y 0))), ((g 2), .inl (E.2.1, 47, .inl (y 1))), ((g 3), .inl (E.2.1, 235, .inl (y 2))), ((g 4), .inl (E.2.1, 8, .inl (y 3))), ((g 5), .inl (E.2.1, 120, .inl (y 4))), ((g 6), .inl (E.2.1, 60, .inl (y 5))), ((g 7), .inl (E.2.1, 180, .inl (y 6)))]) (lv1 := [(0, .ref (g 0)), (1, .int fam), (2, .int ser), (3, .int (fam ||| (ser <<< (4 &&& 31)))), (4, .int (romP fam ser)), (5, .int (nI k))]) rfl rfl rfl ?_
        refine x_iload C dX6_doAdd_44 5 rfl ?_
        refine x_aload_n C dX6_doAdd_46 0 rfl ?_
        refine x_get (ref := "RomSearchBusModel") (v := .ref (g 1)) C inX6 0 0 rfl rfl (by decide) kw_fl_X6_7 rfl rfl dX6_doAdd_47 ?_
        refine x_iconst (v := 0) C dX6_doAdd_50 (by decide) ?_
        refine x_ialdN (K := 0) (x := (y 0 0)) C 1 rfl (by decide) (by decide) (by decide) rfl dX6_doAdd_51 ?_
        refine x_icmp_ge (tgt := 76) C dX6_doAdd_52 (by decide) (fun c_52 => absurd c_52 (by rw [hn]; exact nI_ge hk (by omega))) (fun c_52 => ?_)
        refine x_aload_n C dX6_doAdd_55 0 rfl ?_
        refine x_iload C dX6_doAdd_56 5 rfl ?_
        refine x_iconst (v := 0) C dX6_doAdd_58 (by decide) ?_
        refine x_callVI (wc := [((g 0), .inr (6, [.ref (g 1), .ref (g 2), .ref (g 3), .int (y 7 0), .ref (g 4), .int (y 7 1), .ref (g 5), .int (y 7 2), .int (y 7 3), .int (y 7 4), .int (y 7 5), .ref (g 6), .ref (g 7), .long z])), ((g 1), .inl (E.2.1, 47, .inl (y 0))), ((g 2), .inl (E.2.1, 47, .inl (y 1))), ((g 3), .inl (E.2.1, 235, .inl (y 2))), ((g 4), .inl (E.2.1, 8, .inl (y 3))), ((g 5), .inl (E.2.1, 120, .inl (y 4))), ((g 6), .inl (E.2.1, 60, .inl (y 5))), ((g 7), .inl (E.2.1, 180, .inl (y 6)))]) (wr := []) (As := [.int (nI k), .int 0]) (rest := []) (ci := 6) (q0 := 0) C (c_X6_of l E g y z (nI k) 0 k 0 rfl rfl (by omega)) (gWV C kw_ml_X6_53 kw_im_X6_of kw_sel_X6_of kw_ini_X6 kw_code_X6_of ga_X6_of ⟨Nat.le_of_ble_eq_true rfl, Nat.le_of_ble_eq_true rfl⟩) rfl rfl [0, 1, 2, 3, 4, 5, 6, 7] [] [0, 1, 2, 3, 4, 5, 6, 7] rfl rfl rfl rfl (by decide) (fun _ => [((g 0), .inr (6, [.ref (g 1), .ref (g 2), .ref (g 3), .int (y 7 0), .ref (g 4), .int (y 7 1), .ref (g 5), .int (y 7 2), .int (y 7 3), .int (y 7 4), .int (y 7 5), .ref (g 6), .ref (g 7), .long z])), ((g 1), .inl (E.2.1, 47, .inl (y 0))), ((g 2), .inl (E.2.1, 47, .inl (y 1))), ((g 3), .inl (E.2.1, 235, .inl (y 2))), ((g 4), .inl (E.2.1, 8, .inl (y 3))), ((g 5), .inl (E.2.1, 120, .inl (y 4))), ((g 6), .inl (E.2.1, 60, .inl (y 5))), ((g 7), .inl (E.2.1, 180, .inl (y 6)))]) rfl (fun _ => rfl) rfl (Nat.le_of_ble_eq_true rfl) ⟨Nat.le_of_ble_eq_true rfl, Nat.le_of_ble_eq_true rfl⟩ rfl dX6_doAdd_59 (fun r_7 _ e_8 => ?_)
        subst e_8
        refine x_iload C dX6_doAdd_62 4 rfl ?_
        refine x_icmp_ne (tgt := 70) C dX6_doAdd_64 (by decide) (fun c_64 => ?_) (fun c_64 => ?_)
        · refine x_iinc (j := 5) (v := (nI (k + 1))) (lv1 := [(5, .int (nI (k + 1))), (0, .ref (g 0)), (1, .int fam), (2, .int ser), (3, .int (fam ||| (ser <<< (4 &&& 31)))), (4, .int (romP fam ser))]) C dX6_doAdd_70 rfl (nI_1 _) (by decide) rfl ?_
          refine x_goto (tgt := 44) C dX6_doAdd_73 (by decide) ?_
          refine Wd.locs (lv1 := [(0, .ref (g 0)), (1, .int fam), (2, .int ser), (3, .int (fam ||| (ser <<< (4 &&& 31)))), (4, .int (romP fam ser)), (5, .int (nI (k + 1)))]) [1, 2, 3, 4, 5, 0] rfl ?_
          exact Wd.cast (w1 := [((g 0), .inr (6, [.ref (g 1), .ref (g 2), .ref (g 3), .int (y 7 0), .ref (g 4), .int (y 7 1), .ref (g 5), .int (y 7 2), .int (y 7 3), .int (y 7 4), .int (y 7 5), .ref (g 6), .ref (g 7), .long z])), ((g 1), .inl (E.2.1, 47, .inl (y 0))), ((g 2), .inl (E.2.1, 47, .inl (y 1))), ((g 3), .inl (E.2.1, 235, .inl (y 2))), ((g 4), .inl (E.2.1, 8, .inl (y 3))), ((g 5), .inl (E.2.1, 120, .inl (y 4))), ((g 6), .inl (E.2.1, 60, .inl (y 5))), ((g 7), .inl (E.2.1, 180, .inl (y 6)))]) (lv1 := [(0, .ref (g 0)), (1, .int fam), (2, .int ser), (3, .int (fam ||| (ser <<< (4 &&& 31)))), (4, .int (romP fam ser)), (5, .int (nI (k + 1)))]) rfl rfl rfl (ih (by rw [hasS_s, if_neg c_64]; exact hI))
        · refine x_bipush (v := (-3)) C dX6_doAdd_67 (by decide) ?_
          exact x_iret C hr hlocks rfl () (Eq.symm (by unfold mAddR; rw [if_pos c_7, if_pos c_18, if_pos (hasS_t (f := fun k => y 0 (1 + 4 * k + 0)) c_64 hk)])) (by rw [show mAddG (y 0) fam ser n = (y 0) from (by unfold mAddG; rw [if_pos c_7, if_pos c_18, if_pos (hasS_t (f := fun k => y 0 (1 + 4 * k + 0)) c_64 hk)])]; exact gEq.rf _) dX6_doAdd_69
    · refine x_bipush (v := (-2)) C dX6_doAdd_21 (by decide) ?_
      exact x_iret C hr hlocks rfl () (Eq.symm (by unfold mAddR; rw [if_pos c_7, if_neg c_18])) (by rw [show mAddG (y 0) fam ser n = (y 0) from (by unfold mAddG; rw [if_pos c_7, if_neg c_18])]; exact gEq.rf _) dX6_doAdd_23
set_option maxHeartbeats 4000000 in
set_option maxRecDepth 100000 in
theorem c_X6_doRemove (l : Launch) (E : gE) (g : Nat → Nat) (y : Nat → Nat → Int32) (z : Int64) (q : Int32) (n : Nat) (hn : y 0 0 = nI n) (h8 : n ≤ 8) : CtI l E yX6_doRemove prog_8_method_17_code 3 (some .int) 2 43 0 0 [.ref (g 0), .int q] [((g 0), .inr (6, [.ref (g 1), .ref (g 2), .ref (g 3), .int (y 7 0), .ref (g 4), .int (y 7 1), .ref (g 5), .int (y 7 2), .int (y 7 3), .int (y 7 4), .int (y 7 5), .ref (g 6), .ref (g 7), .long z])), ((g 1), .inl (E.2.1, 47, .inl (y 0))), ((g 2), .inl (E.2.1, 47, .inl (y 1))), ((g 3), .inl (E.2.1, 235, .inl (y 2))), ((g 4), .inl (E.2.1, 8, .inl (y 3))), ((g 5), .inl (E.2.1, 120, .inl (y 4))), ((g 6), .inl (E.2.1, 60, .inl (y 5))), ((g 7), .inl (E.2.1, 180, .inl (y 6)))] (fun r (_ : Unit) => r = (mRemR (y 0) q n)) (fun _ => [((g 0), .inr (6, [.ref (g 1), .ref (g 2), .ref (g 3), .int (y 7 0), .ref (g 4), .int (y 7 1), .ref (g 5), .int (y 7 2), .int (y 7 3), .int (y 7 4), .int (y 7 5), .ref (g 6), .ref (g 7), .long z])), ((g 1), .inl (E.2.1, 47, .inl (mRemG (y 0) q n))), ((g 2), .inl (E.2.1, 47, .inl (y 1))), ((g 3), .inl (E.2.1, 235, .inl (y 2))), ((g 4), .inl (E.2.1, 8, .inl (y 3))), ((g 5), .inl (E.2.1, 120, .inl (y 4))), ((g 6), .inl (E.2.1, 60, .inl (y 5))), ((g 7), .inl (E.2.1, 180, .inl (y 6)))]) := by
  refine CtI.start (by decide) (Nat.le_of_ble_eq_true rfl) ?_
  intro p_ e_ s_ m_ below_ meth_ c_ A_ C hr hlocks hnm
  refine Wd.cast (lv1 := [(0, .ref (g 0)), (1, .int q)]) rfl rfl rfl ?_
  refine x_aload_n C dX6_doRemove_0 0 rfl ?_
  refine x_iload_n C dX6_doRemove_1 1 rfl ?_
  refine x_callVI (wc := [((g 0), .inr (6, [.ref (g 1), .ref (g 2), .ref (g 3), .int (y 7 0), .ref (g 4), .int (y 7 1), .ref (g 5), .int (y 7 2), .int (y 7 3), .int (y 7 4), .int (y 7 5), .ref (g 6), .ref (g 7), .long z])), ((g 1), .inl (E.2.1, 47, .inl (y 0))), ((g 2), .inl (E.2.1, 47, .inl (y 1))), ((g 3), .inl (E.2.1, 235, .inl (y 2))), ((g 4), .inl (E.2.1, 8, .inl (y 3))), ((g 5), .inl (E.2.1, 120, .inl (y 4))), ((g 6), .inl (E.2.1, 60, .inl (y 5))), ((g 7), .inl (E.2.1, 180, .inl (y 6)))]) (wr := []) (As := [.int q]) (rest := []) (ci := 6) (q0 := 0) C (c_X6_isDevice l E g y z q ) (gWV C kw_ml_X6_60 kw_im_X6_isDevice kw_sel_X6_isDevice kw_ini_X6 kw_code_X6_isDevice ga_X6_isDevice ⟨Nat.le_of_ble_eq_true rfl, Nat.le_of_ble_eq_true rfl⟩) rfl rfl [0, 1, 2, 3, 4, 5, 6, 7] [] [0, 1, 2, 3, 4, 5, 6, 7] rfl rfl rfl rfl (by decide) (fun _ => [((g 0), .inr (6, [.ref (g 1), .ref (g 2), .ref (g 3), .int (y 7 0), .ref (g 4), .int (y 7 1), .ref (g 5), .int (y 7 2), .int (y 7 3), .int (y 7 4), .int (y 7 5), .ref (g 6), .ref (g 7), .long z])), ((g 1), .inl (E.2.1, 47, .inl (y 0))), ((g 2), .inl (E.2.1, 47, .inl (y 1))), ((g 3), .inl (E.2.1, 235, .inl (y 2))), ((g 4), .inl (E.2.1, 8, .inl (y 3))), ((g 5), .inl (E.2.1, 120, .inl (y 4))), ((g 6), .inl (E.2.1, 60, .inl (y 5))), ((g 7), .inl (E.2.1, 180, .inl (y 6)))]) rfl (fun _ => rfl) rfl (Nat.le_of_ble_eq_true rfl) ⟨Nat.le_of_ble_eq_true rfl, Nat.le_of_ble_eq_true rfl⟩ rfl dX6_doRemove_2 (fun r_1 _ e_2 => ?_)
  subst e_2
  refine x_ifB_ne (tgt := 11) C dX6_doRemove_5 (by decide) (fun c_5 => ?_) (fun c_5 => ?_)
  · refine x_aload_n C dX6_doRemove_11 0 rfl ?_
    refine x_get (ref := "RomSearchBusModel") (v := .ref (g 1)) C inX6 0 0 rfl rfl (by decide) kw_fl_X6_7 rfl rfl dX6_doRemove_12 ?_
    refine x_iconst (v := 0) C dX6_doRemove_15 (by decide) ?_
    refine x_dup2 C dX6_doRemove_16 rfl rfl ?_
    refine x_ialdN (K := 0) (x := (y 0 0)) C 1 rfl (by decide) (by decide) (by decide) rfl dX6_doRemove_17 ?_
    refine x_iconst (v := 1) C dX6_doRemove_18 (by decide) ?_
    refine x_isub C dX6_doRemove_19 ?_
    refine x_iastN (K := 0) C 1 rfl (by decide) (by decide) (by decide) [((g 0), .inr (6, [.ref (g 1), .ref (g 2), .ref (g 3), .int (y 7 0), .ref (g 4), .int (y 7 1), .ref (g 5), .int (y 7 2), .int (y 7 3), .int (y 7 4), .int (y 7 5), .ref (g 6), .ref (g 7), .long z])), ((g 1), .inl (E.2.1, 47, .inl (upd (y 0) 0 ((y 0 0) - 1)))), ((g 2), .inl (E.2.1, 47, .inl (y 1))), ((g 3), .inl (E.2.1, 235, .inl (y 2))), ((g 4), .inl (E.2.1, 8, .inl (y 3))), ((g 5), .inl (E.2.1, 120, .inl (y 4))), ((g 6), .inl (E.2.1, 60, .inl (y 5))), ((g 7), .inl (E.2.1, 180, .inl (y 6)))] rfl dX6_doRemove_20 ?_
    refine x_iconst (v := 1) C dX6_doRemove_21 (by decide) ?_
    refine x_iconst (v := 4) C dX6_doRemove_22 (by decide) ?_
    refine x_iload_n C dX6_doRemove_23 1 rfl ?_
    refine x_imul C dX6_doRemove_24 ?_
    refine x_iadd C dX6_doRemove_25 ?_
    refine x_istore_n (lv1 := [(2, .int (1 + (4 * q))), (0, .ref (g 0)), (1, .int q)]) C dX6_doRemove_26 (by decide) rfl ?_
    have hq := i32_in2 c_5 hn h8
    refine Wd.locs (lv1 := [(0, .ref (g 0)), (1, .int q), (2, .int (1 + (4 * q)))]) [1, 2, 0] rfl ?_
    have w_3 : (1 + (4 * q)) = nI (1 + 4 * q.toNatClampNeg) := (by rw [← ixE, ← hq.2])
    have w_4 : (upd (y 0) 0 ((y 0 0) - 1)) = (shF (upd (y 0) 0 ((y 0 0) - 1)) (1 + 4 * q.toNatClampNeg) (1 + 4 * q.toNatClampNeg)) := (shF_0 _ _)
    refine Wd.cast (w1 := [((g 0), .inr (6, [.ref (g 1), .ref (g 2), .ref (g 3), .int (y 7 0), .ref (g 4), .int (y 7 1), .ref (g 5), .int (y 7 2), .int (y 7 3), .int (y 7 4), .int (y 7 5), .ref (g 6), .ref (g 7), .long z])), ((g 1), .inl (E.2.1, 47, .inl (shF (upd (y 0) 0 ((y 0 0) - 1)) (1 + 4 * q.toNatClampNeg) (1 + 4 * q.toNatClampNeg)))), ((g 2), .inl (E.2.1, 47, .inl (y 1))), ((g 3), .inl (E.2.1, 235, .inl (y 2))), ((g 4), .inl (E.2.1, 8, .inl (y 3))), ((g 5), .inl (E.2.1, 120, .inl (y 4))), ((g 6), .inl (E.2.1, 60, .inl (y 5))), ((g 7), .inl (E.2.1, 180, .inl (y 6)))]) (lv1 := [(0, .ref (g 0)), (1, .int q), (2, .int (nI (1 + 4 * q.toNatClampNeg)))]) (by first | (rw [w_4]; done) | (rw [← w_4]; done) | simp only [w_4]) (by first | (rw [w_3]; done) | (rw [← w_3]; done) | simp only [w_3]) rfl ?_
    refine Wd.up (W1 := fun k => [((g 0), .inr (6, [.ref (g 1), .ref (g 2), .ref (g 3), .int (y 7 0), .ref (g 4), .int (y 7 1), .ref (g 5), .int (y 7 2), .int (y 7 3), .int (y 7 4), .int (y 7 5), .ref (g 6), .ref (g 7), .long z])), ((g 1), .inl (E.2.1, 47, .inl (shF (upd (y 0) 0 ((y 0 0) - 1)) (1 + 4 * q.toNatClampNeg) k))), ((g 2), .inl (E.2.1, 47, .inl (y 1))), ((g 3), .inl (E.2.1, 235, .inl (y 2))), ((g 4), .inl (E.2.1, 8, .inl (y 3))), ((g 5), .inl (E.2.1, 120, .inl (y 4))), ((g 6), .inl (E.2.1, 60, .inl (y 5))), ((g 7), .inl (E.2.1, 180, .inl (y 6)))]) (LV := fun k => [(0, .ref (g 0)), (1, .int q), (2, .int (nI k))]) (fun k => True) (1 + 4 * q.toNatClampNeg) (1 + 4 * (n - 1)) (by omega) (trivial) (fun hI => ?_) (fun k hk0 hk hI ih => ?_)
    · refine Wd.cast (w1 := [((g 0), .inr (6, [.ref (g 1), .ref (g 2), .ref (g 3), .int (y 7 0), .ref (g 4), .int (y 7 1), .ref (g 5), .int (y 7 2), .int (y 7 3), .int (y 7 4), .int (y 7 5), .ref (g 6), .ref (g 7), .long z])), ((g 1), .inl (E.2.1, 47, .inl (shF (upd (y 0) 0 ((y 0 0) - 1)) (1 + 4 * q.toNatClampNeg) (1 + 4 * (n - 1))))), ((g 2), .inl (E.2.1, 47, .inl (y 1))), ((g 3), .inl (E.2.1, 235, .inl (y 2))), ((g 4), .inl (E.2.1, 8, .inl (y 3))), ((g 5), .inl (E.2.1, 120, .inl (y 4))), ((g 6), .inl (E.2.1, 60, .inl (y 5))), ((g 7), .inl (E.2.1, 180, .inl (y 6)))]) (lv1 := [(0, .ref (g 0)), (1, .int q), (2, .int (nI (1 + 4 * (n - 1))))]) rfl rfl rfl ?_
      refine x_iload_n C dX6_doRemove_27 2 rfl ?_
      refine x_iconst (v := 1) C dX6_doRemove_28 (by decide) ?_
      refine x_iconst (v := 4) C dX6_doRemove_29 (by decide) ?_
      refine x_aload_n C dX6_doRemove_30 0 rfl ?_
      refine x_get (ref := "RomSearchBusModel") (v := .ref (g 1)) C inX6 0 0 rfl rfl (by decide) kw_fl_X6_7 rfl rfl dX6_doRemove_31 ?_
      refine x_iconst (v := 0) C dX6_doRemove_34 (by decide) ?_
      refine x_ialdN (K := 0) (x := (nI (n - 1))) C 1 rfl (by decide) (by decide) (by decide) (by first | (show shF _ _ _ 0 = _; unfold shF; rw [if_neg (by omega)]; show (y 0 0) - 1 = _; rw [hn]; exact nI_m1 (by omega)) | (show (y 0 0) - 1 = _; rw [hn]; exact nI_m1 (by omega))) dX6_doRemove_35 ?_
      refine x_imul C dX6_doRemove_36 ?_
      refine x_iadd C dX6_doRemove_37 ?_
      refine x_icmp_ge (tgt := 61) C dX6_doRemove_38 (by decide) (fun c_38 => ?_) (fun c_38 => absurd (by rw [ixE]; exact Int32.le_refl _) c_38)
      refine x_aload_n C dX6_doRemove_61 0 rfl ?_
      refine x_get (ref := "RomSearchBusModel") (v := .ref (g 1)) C inX6 0 0 rfl rfl (by decide) kw_fl_X6_7 rfl rfl dX6_doRemove_62 ?_
      refine x_iconst (v := 0) C dX6_doRemove_65 (by decide) ?_
      refine x_ialdN (K := 0) (x := (nI (n - 1))) C 1 rfl (by decide) (by decide) (by decide) (by first | (show shF _ _ _ 0 = _; unfold shF; rw [if_neg (by omega)]; show (y 0 0) - 1 = _; rw [hn]; exact nI_m1 (by omega)) | (show (y 0 0) - 1 = _; rw [hn]; exact nI_m1 (by omega))) dX6_doRemove_66 ?_
      exact x_iret C hr hlocks rfl () (Eq.symm (by unfold mRemR; rw [if_pos c_5])) (by rw [show mRemG (y 0) q n = (shF (upd (y 0) 0 ((y 0 0) - 1)) (1 + 4 * q.toNatClampNeg) (1 + 4 * (n - 1))) from (by unfold mRemG; rw [if_pos c_5])]; exact gEq.rf _) dX6_doRemove_67
    · refine Wd.cast (w1 := [((g 0), .inr (6, [.ref (g 1), .ref (g 2), .ref (g 3), .int (y 7 0), .ref (g 4), .int (y 7 1), .ref (g 5), .int (y 7 2), .int (y 7 3), .int (y 7 4), .int (y 7 5), .ref (g 6), .ref (g 7), .long z])), ((g 1), .inl (E.2.1, 47, .inl (shF (upd (y 0) 0 ((y 0 0) - 1)) (1 + 4 * q.toNatClampNeg) k))), ((g 2), .inl (E.2.1, 47, .inl (y 1))), ((g 3), .inl (E.2.1, 235, .inl (y 2))), ((g 4), .inl (E.2.1, 8, .inl (y 3))), ((g 5), .inl (E.2.1, 120, .inl (y 4))), ((g 6), .inl (E.2.1, 60, .inl (y 5))), ((g 7), .inl (E.2.1, 180, .inl (y 6)))]) (lv1 := [(0, .ref (g 0)), (1, .int q), (2, .int (nI k))]) rfl rfl rfl ?_
      refine x_iload_n C dX6_doRemove_27 2 rfl ?_
      refine x_iconst (v := 1) C dX6_doRemove_28 (by decide) ?_
      refine x_iconst (v := 4) C dX6_doRemove_29 (by decide) ?_
      refine x_aload_n C dX6_doRemove_30 0 rfl ?_
      refine x_get (ref := "RomSearchBusModel") (v := .ref (g 1)) C inX6 0 0 rfl rfl (by decide) kw_fl_X6_7 rfl rfl dX6_doRemove_31 ?_
      refine x_iconst (v := 0) C dX6_doRemove_34 (by decide) ?_
      refine x_ialdN (K := 0) (x := (nI (n - 1))) C 1 rfl (by decide) (by decide) (by decide) (by first | (show shF _ _ _ 0 = _; unfold shF; rw [if_neg (by omega)]; show (y 0 0) - 1 = _; rw [hn]; exact nI_m1 (by omega)) | (show (y 0 0) - 1 = _; rw [hn]; exact nI_m1 (by omega))) dX6_doRemove_35 ?_
      refine x_imul C dX6_doRemove_36 ?_
      refine x_iadd C dX6_doRemove_37 ?_
      refine x_icmp_ge (tgt := 61) C dX6_doRemove_38 (by decide) (fun c_38 => absurd c_38 (by rw [ixE]; exact nI_ge hk (by omega))) (fun c_38 => ?_)
      refine x_aload_n C dX6_doRemove_41 0 rfl ?_
      refine x_get (ref := "RomSearchBusModel") (v := .ref (g 1)) C inX6 0 0 rfl rfl (by decide) kw_fl_X6_7 rfl rfl dX6_doRemove_42 ?_
      refine x_iload_n C dX6_doRemove_45 2 rfl ?_
      refine x_aload_n C dX6_doRemove_46 0 rfl ?_
      refine x_get (ref := "RomSearchBusModel") (v := .ref (g 1)) C inX6 0 0 rfl rfl (by decide) kw_fl_X6_7 rfl rfl dX6_doRemove_47 ?_
      refine x_iload_n C dX6_doRemove_50 2 rfl ?_
      refine x_iconst (v := 4) C dX6_doRemove_51 (by decide) ?_
      refine x_iadd C dX6_doRemove_52 ?_
      refine x_ialdN (K := (k + 4)) (x := ((shF (upd (y 0) 0 ((y 0 0) - 1)) (1 + 4 * q.toNatClampNeg) k) (k + 4))) C 1 rfl (ixP k 4 rfl) (by omega) (by decide) rfl dX6_doRemove_53 ?_
      refine x_iastN (K := k) C 1 rfl rfl (by omega) (by decide) [((g 0), .inr (6, [.ref (g 1), .ref (g 2), .ref (g 3), .int (y 7 0), .ref (g 4), .int (y 7 1), .ref (g 5), .int (y 7 2), .int (y 7 3), .int (y 7 4), .int (y 7 5), .ref (g 6), .ref (g 7), .long z])), ((g 1), .inl (E.2.1, 47, .inl (upd (shF (upd (y 0) 0 ((y 0 0) - 1)) (1 + 4 * q.toNatClampNeg) k) k ((shF (upd (y 0) 0 ((y 0 0) - 1)) (1 + 4 * q.toNatClampNeg) k) (k + 4))))), ((g 2), .inl (E.2.1, 47, .inl (y 1))), ((g 3), .inl (E.2.1, 235, .inl (y 2))), ((g 4), .inl (E.2.1, 8, .inl (y 3))), ((g 5), .inl (E.2.1, 120, .inl (y 4))), ((g 6), .inl (E.2.1, 60, .inl (y 5))), ((g 7), .inl (E.2.1, 180, .inl (y 6)))] rfl dX6_doRemove_54 ?_
      refine x_iinc (j := 2) (v := (nI (k + 1))) (lv1 := [(2, .int (nI (k + 1))), (0, .ref (g 0)), (1, .int q)]) C dX6_doRemove_55 rfl (nI_1 _) (by decide) rfl ?_
      refine x_goto (tgt := 27) C dX6_doRemove_58 (by decide) ?_
      refine Wd.locs (lv1 := [(0, .ref (g 0)), (1, .int q), (2, .int (nI (k + 1)))]) [1, 2, 0] rfl ?_
      have w_5 : (upd (shF (upd (y 0) 0 ((y 0 0) - 1)) (1 + 4 * q.toNatClampNeg) k) k ((shF (upd (y 0) 0 ((y 0 0) - 1)) (1 + 4 * q.toNatClampNeg) k) (k + 4))) = (shF (upd (y 0) 0 ((y 0 0) - 1)) (1 + 4 * q.toNatClampNeg) (k + 1)) := (shF_s _ hk0)
      exact Wd.cast (w1 := [((g 0), .inr (6, [.ref (g 1), .ref (g 2), .ref (g 3), .int (y 7 0), .ref (g 4), .int (y 7 1), .ref (g 5), .int (y 7 2), .int (y 7 3), .int (y 7 4), .int (y 7 5), .ref (g 6), .ref (g 7), .long z])), ((g 1), .inl (E.2.1, 47, .inl (shF (upd (y 0) 0 ((y 0 0) - 1)) (1 + 4 * q.toNatClampNeg) (k + 1)))), ((g 2), .inl (E.2.1, 47, .inl (y 1))), ((g 3), .inl (E.2.1, 235, .inl (y 2))), ((g 4), .inl (E.2.1, 8, .inl (y 3))), ((g 5), .inl (E.2.1, 120, .inl (y 4))), ((g 6), .inl (E.2.1, 60, .inl (y 5))), ((g 7), .inl (E.2.1, 180, .inl (y 6)))]) (lv1 := [(0, .ref (g 0)), (1, .int q), (2, .int (nI (k + 1)))]) (by first | (rw [w_5]; done) | (rw [← w_5]; done) | simp only [w_5]) rfl rfl (ih trivial)
  · refine x_bipush (v := (-2)) C dX6_doRemove_8 (by decide) ?_
    exact x_iret C hr hlocks rfl () (Eq.symm (by unfold mRemR; rw [if_neg c_5])) (by rw [show mRemG (y 0) q n = (y 0) from (by unfold mRemG; rw [if_neg c_5])]; exact gEq.rf _) dX6_doRemove_10
def f_X6_doReading_r (y : Nat → Nat → Int32) (q : Int32) (x : Int32) (n : Nat) : Int32 := if 0 ≤ q ∧ q ≤ (y 0 0) - 1 then (if (-999) ≤ x ∧ x ≤ 999 then (if alarmB ((rs y 0 (1 + 4 * q.toNatClampNeg + 1) x) 0 (1 + 4 * q.toNatClampNeg + 1)) ((rs y 0 (1 + 4 * q.toNatClampNeg + 1) x) 0 (1 + 4 * q.toNatClampNeg + 2)) ((rs y 0 (1 + 4 * q.toNatClampNeg + 1) x) 0 (1 + 4 * q.toNatClampNeg + 3)) = true then 1 else 0) else (-2)) else (-2)
def f_X6_doReading_y0 (y : Nat → Nat → Int32) (q : Int32) (x : Int32) (n : Nat) : Nat → Int32 := if 0 ≤ q ∧ q ≤ (y 0 0) - 1 then (if (-999) ≤ x ∧ x ≤ 999 then (upd (y 0) (1 + 4 * q.toNatClampNeg + 1) x) else (y 0)) else (y 0)
set_option maxHeartbeats 4000000 in
set_option maxRecDepth 100000 in
theorem c_X6_doReading (l : Launch) (E : gE) (g : Nat → Nat) (y : Nat → Nat → Int32) (z : Int64) (q : Int32) (x : Int32) (n : Nat) (hn : y 0 0 = nI n) (h8 : n ≤ 8) : CtI l E yX6_doReading prog_8_method_18_code 3 (some .int) 2 45 0 0 [.ref (g 0), .int q, .int x] [((g 0), .inr (6, [.ref (g 1), .ref (g 2), .ref (g 3), .int (y 7 0), .ref (g 4), .int (y 7 1), .ref (g 5), .int (y 7 2), .int (y 7 3), .int (y 7 4), .int (y 7 5), .ref (g 6), .ref (g 7), .long z])), ((g 1), .inl (E.2.1, 47, .inl (y 0))), ((g 2), .inl (E.2.1, 47, .inl (y 1))), ((g 3), .inl (E.2.1, 235, .inl (y 2))), ((g 4), .inl (E.2.1, 8, .inl (y 3))), ((g 5), .inl (E.2.1, 120, .inl (y 4))), ((g 6), .inl (E.2.1, 60, .inl (y 5))), ((g 7), .inl (E.2.1, 180, .inl (y 6)))] (fun r (_ : Unit) => r = f_X6_doReading_r y q x n) (fun _ => [((g 0), .inr (6, [.ref (g 1), .ref (g 2), .ref (g 3), .int (y 7 0), .ref (g 4), .int (y 7 1), .ref (g 5), .int (y 7 2), .int (y 7 3), .int (y 7 4), .int (y 7 5), .ref (g 6), .ref (g 7), .long z])), ((g 1), .inl (E.2.1, 47, .inl (f_X6_doReading_y0 y q x n))), ((g 2), .inl (E.2.1, 47, .inl (y 1))), ((g 3), .inl (E.2.1, 235, .inl (y 2))), ((g 4), .inl (E.2.1, 8, .inl (y 3))), ((g 5), .inl (E.2.1, 120, .inl (y 4))), ((g 6), .inl (E.2.1, 60, .inl (y 5))), ((g 7), .inl (E.2.1, 180, .inl (y 6)))]) := by
  refine CtI.start (by decide) (Nat.le_of_ble_eq_true rfl) ?_
  intro p_ e_ s_ m_ below_ meth_ c_ A_ C hr hlocks hnm
  refine Wd.cast (lv1 := [(0, .ref (g 0)), (1, .int q), (2, .int x)]) rfl rfl rfl ?_
  refine x_aload_n C dX6_doReading_0 0 rfl ?_
  refine x_iload_n C dX6_doReading_1 1 rfl ?_
  refine x_callVI (wc := [((g 0), .inr (6, [.ref (g 1), .ref (g 2), .ref (g 3), .int (y 7 0), .ref (g 4), .int (y 7 1), .ref (g 5), .int (y 7 2), .int (y 7 3), .int (y 7 4), .int (y 7 5), .ref (g 6), .ref (g 7), .long z])), ((g 1), .inl (E.2.1, 47, .inl (y 0))), ((g 2), .inl (E.2.1, 47, .inl (y 1))), ((g 3), .inl (E.2.1, 235, .inl (y 2))), ((g 4), .inl (E.2.1, 8, .inl (y 3))), ((g 5), .inl (E.2.1, 120, .inl (y 4))), ((g 6), .inl (E.2.1, 60, .inl (y 5))), ((g 7), .inl (E.2.1, 180, .inl (y 6)))]) (wr := []) (As := [.int q]) (rest := []) (ci := 6) (q0 := 0) C (c_X6_isDevice l E g y z q ) (gWV C kw_ml_X6_60 kw_im_X6_isDevice kw_sel_X6_isDevice kw_ini_X6 kw_code_X6_isDevice ga_X6_isDevice ⟨Nat.le_of_ble_eq_true rfl, Nat.le_of_ble_eq_true rfl⟩) rfl rfl [0, 1, 2, 3, 4, 5, 6, 7] [] [0, 1, 2, 3, 4, 5, 6, 7] rfl rfl rfl rfl (by decide) (fun _ => [((g 0), .inr (6, [.ref (g 1), .ref (g 2), .ref (g 3), .int (y 7 0), .ref (g 4), .int (y 7 1), .ref (g 5), .int (y 7 2), .int (y 7 3), .int (y 7 4), .int (y 7 5), .ref (g 6), .ref (g 7), .long z])), ((g 1), .inl (E.2.1, 47, .inl (y 0))), ((g 2), .inl (E.2.1, 47, .inl (y 1))), ((g 3), .inl (E.2.1, 235, .inl (y 2))), ((g 4), .inl (E.2.1, 8, .inl (y 3))), ((g 5), .inl (E.2.1, 120, .inl (y 4))), ((g 6), .inl (E.2.1, 60, .inl (y 5))), ((g 7), .inl (E.2.1, 180, .inl (y 6)))]) rfl (fun _ => rfl) rfl (Nat.le_of_ble_eq_true rfl) ⟨Nat.le_of_ble_eq_true rfl, Nat.le_of_ble_eq_true rfl⟩ rfl dX6_doReading_2 (fun r_1 _ e_2 => ?_)
  subst e_2
  refine x_ifB_eq (tgt := 21) C dX6_doReading_5 (by decide) (fun c_5 => ?_) (fun c_5 => ?_)
  · refine x_bipush (v := (-2)) C dX6_doReading_21 (by decide) ?_
    have q_3 : f_X6_doReading_y0 y q x n = (y 0) := (by unfold f_X6_doReading_y0; rw [if_neg c_5])
    exact x_iret C hr hlocks rfl () (Eq.symm (by unfold f_X6_doReading_r; rw [if_neg c_5])) (by rw [q_3]; exact gEq.rf _) dX6_doReading_23
  · refine x_iload_n C dX6_doReading_8 2 rfl ?_
    refine x_sipush (v := (-999)) C dX6_doReading_9 (by decide) ?_
    refine x_sipush (v := 999) C dX6_doReading_12 (by decide) ?_
    refine x_callSI (wc := []) (wr := [((g 0), .inr (6, [.ref (g 1), .ref (g 2), .ref (g 3), .int (y 7 0), .ref (g 4), .int (y 7 1), .ref (g 5), .int (y 7 2), .int (y 7 3), .int (y 7 4), .int (y 7 5), .ref (g 6), .ref (g 7), .long z])), ((g 1), .inl (E.2.1, 47, .inl (y 0))), ((g 2), .inl (E.2.1, 47, .inl (y 1))), ((g 3), .inl (E.2.1, 235, .inl (y 2))), ((g 4), .inl (E.2.1, 8, .inl (y 3))), ((g 5), .inl (E.2.1, 120, .inl (y 4))), ((g 6), .inl (E.2.1, 60, .inl (y 5))), ((g 7), .inl (E.2.1, 180, .inl (y 6)))]) (As := [.int x, .int (-999), .int 999]) (rest := []) C (c_X6_in l E x (-999) 999 ) (gWS C kw_ml_X6_35 kw_st_X6_in kw_ini_X6 kw_code_X6_in ga_X6_in ⟨Nat.le_of_ble_eq_true rfl, Nat.le_of_ble_eq_true rfl⟩) [] [0, 1, 2, 3, 4, 5, 6, 7] [0, 1, 2, 3, 4, 5, 6, 7] rfl rfl rfl rfl (by decide) (fun _ => [((g 0), .inr (6, [.ref (g 1), .ref (g 2), .ref (g 3), .int (y 7 0), .ref (g 4), .int (y 7 1), .ref (g 5), .int (y 7 2), .int (y 7 3), .int (y 7 4), .int (y 7 5), .ref (g 6), .ref (g 7), .long z])), ((g 1), .inl (E.2.1, 47, .inl (y 0))), ((g 2), .inl (E.2.1, 47, .inl (y 1))), ((g 3), .inl (E.2.1, 235, .inl (y 2))), ((g 4), .inl (E.2.1, 8, .inl (y 3))), ((g 5), .inl (E.2.1, 120, .inl (y 4))), ((g 6), .inl (E.2.1, 60, .inl (y 5))), ((g 7), .inl (E.2.1, 180, .inl (y 6)))]) rfl (fun _ => rfl) rfl (Nat.le_of_ble_eq_true rfl) ⟨Nat.le_of_ble_eq_true rfl, Nat.le_of_ble_eq_true rfl⟩ rfl dX6_doReading_15 (fun r_4 _ e_5 => ?_)
    subst e_5
    refine x_ifB_ne (tgt := 24) C dX6_doReading_18 (by decide) (fun c_18 => ?_) (fun c_18 => ?_)
    · refine x_aload_n C dX6_doReading_24 0 rfl ?_
      refine x_get (ref := "RomSearchBusModel") (v := .ref (g 1)) C inX6 0 0 rfl rfl (by decide) kw_fl_X6_7 rfl rfl dX6_doReading_25 ?_
      refine x_iconst (v := 1) C dX6_doReading_28 (by decide) ?_
      refine x_iconst (v := 4) C dX6_doReading_29 (by decide) ?_
      refine x_iload_n C dX6_doReading_30 1 rfl ?_
      refine x_imul C dX6_doReading_31 ?_
      refine x_iadd C dX6_doReading_32 ?_
      refine x_iconst (v := 1) C dX6_doReading_33 (by decide) ?_
      refine x_iadd C dX6_doReading_34 ?_
      refine x_iload_n C dX6_doReading_35 2 rfl ?_
      refine x_iastN (K := (1 + 4 * q.toNatClampNeg + 1)) C 1 rfl (by rw [(i32_in2 c_5 hn h8).2, nI_clamp (by have z0 := (i32_in2 c_5 hn h8).1; omega)]; exact ixD _ 1) (by have z0 := (i32_in2 c_5 hn h8).1; omega) (by decide) [((g 0), .inr (6, [.ref (g 1), .ref (g 2), .ref (g 3), .int (y 7 0), .ref (g 4), .int (y 7 1), .ref (g 5), .int (y 7 2), .int (y 7 3), .int (y 7 4), .int (y 7 5), .ref (g 6), .ref (g 7), .long z])), ((g 1), .inl (E.2.1, 47, .inl (upd (y 0) (1 + 4 * q.toNatClampNeg + 1) x))), ((g 2), .inl (E.2.1, 47, .inl (y 1))), ((g 3), .inl (E.2.1, 235, .inl (y 2))), ((g 4), .inl (E.2.1, 8, .inl (y 3))), ((g 5), .inl (E.2.1, 120, .inl (y 4))), ((g 6), .inl (E.2.1, 60, .inl (y 5))), ((g 7), .inl (E.2.1, 180, .inl (y 6)))] rfl dX6_doReading_36 ?_
      refine x_aload_n C dX6_doReading_37 0 rfl ?_
      refine x_iload_n C dX6_doReading_38 1 rfl ?_
      refine x_callVI (wc := [((g 0), .inr (6, [.ref (g 1), .ref (g 2), .ref (g 3), .int (y 7 0), .ref (g 4), .int (y 7 1), .ref (g 5), .int (y 7 2), .int (y 7 3), .int (y 7 4), .int (y 7 5), .ref (g 6), .ref (g 7), .long z])), ((g 1), .inl (E.2.1, 47, .inl (upd (y 0) (1 + 4 * q.toNatClampNeg + 1) x))), ((g 2), .inl (E.2.1, 47, .inl (y 1))), ((g 3), .inl (E.2.1, 235, .inl (y 2))), ((g 4), .inl (E.2.1, 8, .inl (y 3))), ((g 5), .inl (E.2.1, 120, .inl (y 4))), ((g 6), .inl (E.2.1, 60, .inl (y 5))), ((g 7), .inl (E.2.1, 180, .inl (y 6)))]) (wr := []) (As := [.int q]) (rest := []) (ci := 6) (q0 := 0) C (c_X6_alarmed l E g (rs y 0 (1 + 4 * q.toNatClampNeg + 1) x) z q q.toNatClampNeg (i32_in2 c_5 hn h8).2 (Nat.lt_of_lt_of_le (i32_in2 c_5 hn h8).1 h8)) (gWV C kw_ml_X6_63 kw_im_X6_alarmed kw_sel_X6_alarmed kw_ini_X6 kw_code_X6_alarmed ga_X6_alarmed ⟨Nat.le_of_ble_eq_true rfl, Nat.le_of_ble_eq_true rfl⟩) rfl rfl [0, 1, 2, 3, 4, 5, 6, 7] [] [0, 1, 2, 3, 4, 5, 6, 7] rfl rfl rfl rfl (by decide) (fun _ => [((g 0), .inr (6, [.ref (g 1), .ref (g 2), .ref (g 3), .int (y 7 0), .ref (g 4), .int (y 7 1), .ref (g 5), .int (y 7 2), .int (y 7 3), .int (y 7 4), .int (y 7 5), .ref (g 6), .ref (g 7), .long z])), ((g 1), .inl (E.2.1, 47, .inl (upd (y 0) (1 + 4 * q.toNatClampNeg + 1) x))), ((g 2), .inl (E.2.1, 47, .inl (y 1))), ((g 3), .inl (E.2.1, 235, .inl (y 2))), ((g 4), .inl (E.2.1, 8, .inl (y 3))), ((g 5), .inl (E.2.1, 120, .inl (y 4))), ((g 6), .inl (E.2.1, 60, .inl (y 5))), ((g 7), .inl (E.2.1, 180, .inl (y 6)))]) rfl (fun _ => rfl) rfl (Nat.le_of_ble_eq_true rfl) ⟨Nat.le_of_ble_eq_true rfl, Nat.le_of_ble_eq_true rfl⟩ rfl dX6_doReading_39 (fun r_6 _ e_7 => ?_)
      subst e_7
      have q_8 : f_X6_doReading_y0 y q x n = (upd (y 0) (1 + 4 * q.toNatClampNeg + 1) x) := (by unfold f_X6_doReading_y0; rw [if_pos c_5, if_pos c_18])
      exact x_iret C hr hlocks rfl () (Eq.symm (by unfold f_X6_doReading_r; rw [if_pos c_5, if_pos c_18])) (by rw [q_8]; exact gEq.rf _) dX6_doReading_42
    · refine x_bipush (v := (-2)) C dX6_doReading_21 (by decide) ?_
      have q_9 : f_X6_doReading_y0 y q x n = (y 0) := (by unfold f_X6_doReading_y0; rw [if_pos c_5, if_neg c_18])
      exact x_iret C hr hlocks rfl () (Eq.symm (by unfold f_X6_doReading_r; rw [if_pos c_5, if_neg c_18])) (by rw [q_9]; exact gEq.rf _) dX6_doReading_23
def f_X6_doAlarm_r (y : Nat → Nat → Int32) (q : Int32) (ru : Int32) (x : Int32) (n : Nat) : Int32 := if 0 ≤ q ∧ q ≤ (y 0 0) - 1 then (if 0 ≤ ru ∧ ru ≤ 3 then (if (-999) ≤ x ∧ x ≤ 999 then (if alarmB ((rs (rs y 0 (1 + 4 * q.toNatClampNeg + 2) ru) 0 (1 + 4 * q.toNatClampNeg + 3) x) 0 (1 + 4 * q.toNatClampNeg + 1)) ((rs (rs y 0 (1 + 4 * q.toNatClampNeg + 2) ru) 0 (1 + 4 * q.toNatClampNeg + 3) x) 0 (1 + 4 * q.toNatClampNeg + 2)) ((rs (rs y 0 (1 + 4 * q.toNatClampNeg + 2) ru) 0 (1 + 4 * q.toNatClampNeg + 3) x) 0 (1 + 4 * q.toNatClampNeg + 3)) = true then 1 else 0) else (-2)) else (-2)) else (-2)
def f_X6_doAlarm_y0 (y : Nat → Nat → Int32) (q : Int32) (ru : Int32) (x : Int32) (n : Nat) : Nat → Int32 := if 0 ≤ q ∧ q ≤ (y 0 0) - 1 then (if 0 ≤ ru ∧ ru ≤ 3 then (if (-999) ≤ x ∧ x ≤ 999 then (upd (upd (y 0) (1 + 4 * q.toNatClampNeg + 2) ru) (1 + 4 * q.toNatClampNeg + 3) x) else (y 0)) else (y 0)) else (y 0)
set_option maxHeartbeats 4000000 in
set_option maxRecDepth 100000 in
theorem c_X6_doAlarm (l : Launch) (E : gE) (g : Nat → Nat) (y : Nat → Nat → Int32) (z : Int64) (q : Int32) (ru : Int32) (x : Int32) (n : Nat) (hn : y 0 0 = nI n) (h8 : n ≤ 8) : CtI l E yX6_doAlarm prog_8_method_19_code 4 (some .int) 2 45 0 0 [.ref (g 0), .int q, .int ru, .int x] [((g 0), .inr (6, [.ref (g 1), .ref (g 2), .ref (g 3), .int (y 7 0), .ref (g 4), .int (y 7 1), .ref (g 5), .int (y 7 2), .int (y 7 3), .int (y 7 4), .int (y 7 5), .ref (g 6), .ref (g 7), .long z])), ((g 1), .inl (E.2.1, 47, .inl (y 0))), ((g 2), .inl (E.2.1, 47, .inl (y 1))), ((g 3), .inl (E.2.1, 235, .inl (y 2))), ((g 4), .inl (E.2.1, 8, .inl (y 3))), ((g 5), .inl (E.2.1, 120, .inl (y 4))), ((g 6), .inl (E.2.1, 60, .inl (y 5))), ((g 7), .inl (E.2.1, 180, .inl (y 6)))] (fun r (_ : Unit) => r = f_X6_doAlarm_r y q ru x n) (fun _ => [((g 0), .inr (6, [.ref (g 1), .ref (g 2), .ref (g 3), .int (y 7 0), .ref (g 4), .int (y 7 1), .ref (g 5), .int (y 7 2), .int (y 7 3), .int (y 7 4), .int (y 7 5), .ref (g 6), .ref (g 7), .long z])), ((g 1), .inl (E.2.1, 47, .inl (f_X6_doAlarm_y0 y q ru x n))), ((g 2), .inl (E.2.1, 47, .inl (y 1))), ((g 3), .inl (E.2.1, 235, .inl (y 2))), ((g 4), .inl (E.2.1, 8, .inl (y 3))), ((g 5), .inl (E.2.1, 120, .inl (y 4))), ((g 6), .inl (E.2.1, 60, .inl (y 5))), ((g 7), .inl (E.2.1, 180, .inl (y 6)))]) := by
  refine CtI.start (by decide) (Nat.le_of_ble_eq_true rfl) ?_
  intro p_ e_ s_ m_ below_ meth_ c_ A_ C hr hlocks hnm
  refine Wd.cast (lv1 := [(0, .ref (g 0)), (1, .int q), (2, .int ru), (3, .int x)]) rfl rfl rfl ?_
  refine x_aload_n C dX6_doAlarm_0 0 rfl ?_
  refine x_iload_n C dX6_doAlarm_1 1 rfl ?_
  refine x_callVI (wc := [((g 0), .inr (6, [.ref (g 1), .ref (g 2), .ref (g 3), .int (y 7 0), .ref (g 4), .int (y 7 1), .ref (g 5), .int (y 7 2), .int (y 7 3), .int (y 7 4), .int (y 7 5), .ref (g 6), .ref (g 7), .long z])), ((g 1), .inl (E.2.1, 47, .inl (y 0))), ((g 2), .inl (E.2.1, 47, .inl (y 1))), ((g 3), .inl (E.2.1, 235, .inl (y 2))), ((g 4), .inl (E.2.1, 8, .inl (y 3))), ((g 5), .inl (E.2.1, 120, .inl (y 4))), ((g 6), .inl (E.2.1, 60, .inl (y 5))), ((g 7), .inl (E.2.1, 180, .inl (y 6)))]) (wr := []) (As := [.int q]) (rest := []) (ci := 6) (q0 := 0) C (c_X6_isDevice l E g y z q ) (gWV C kw_ml_X6_60 kw_im_X6_isDevice kw_sel_X6_isDevice kw_ini_X6 kw_code_X6_isDevice ga_X6_isDevice ⟨Nat.le_of_ble_eq_true rfl, Nat.le_of_ble_eq_true rfl⟩) rfl rfl [0, 1, 2, 3, 4, 5, 6, 7] [] [0, 1, 2, 3, 4, 5, 6, 7] rfl rfl rfl rfl (by decide) (fun _ => [((g 0), .inr (6, [.ref (g 1), .ref (g 2), .ref (g 3), .int (y 7 0), .ref (g 4), .int (y 7 1), .ref (g 5), .int (y 7 2), .int (y 7 3), .int (y 7 4), .int (y 7 5), .ref (g 6), .ref (g 7), .long z])), ((g 1), .inl (E.2.1, 47, .inl (y 0))), ((g 2), .inl (E.2.1, 47, .inl (y 1))), ((g 3), .inl (E.2.1, 235, .inl (y 2))), ((g 4), .inl (E.2.1, 8, .inl (y 3))), ((g 5), .inl (E.2.1, 120, .inl (y 4))), ((g 6), .inl (E.2.1, 60, .inl (y 5))), ((g 7), .inl (E.2.1, 180, .inl (y 6)))]) rfl (fun _ => rfl) rfl (Nat.le_of_ble_eq_true rfl) ⟨Nat.le_of_ble_eq_true rfl, Nat.le_of_ble_eq_true rfl⟩ rfl dX6_doAlarm_2 (fun r_1 _ e_2 => ?_)
  subst e_2
  refine x_ifB_eq (tgt := 30) C dX6_doAlarm_5 (by decide) (fun c_5 => ?_) (fun c_5 => ?_)
  · refine x_bipush (v := (-2)) C dX6_doAlarm_30 (by decide) ?_
    have q_3 : f_X6_doAlarm_y0 y q ru x n = (y 0) := (by unfold f_X6_doAlarm_y0; rw [if_neg c_5])
    exact x_iret C hr hlocks rfl () (Eq.symm (by unfold f_X6_doAlarm_r; rw [if_neg c_5])) (by rw [q_3]; exact gEq.rf _) dX6_doAlarm_32
  · refine x_iload_n C dX6_doAlarm_8 2 rfl ?_
    refine x_iconst (v := 0) C dX6_doAlarm_9 (by decide) ?_
    refine x_iconst (v := 3) C dX6_doAlarm_10 (by decide) ?_
    refine x_callSI (wc := []) (wr := [((g 0), .inr (6, [.ref (g 1), .ref (g 2), .ref (g 3), .int (y 7 0), .ref (g 4), .int (y 7 1), .ref (g 5), .int (y 7 2), .int (y 7 3), .int (y 7 4), .int (y 7 5), .ref (g 6), .ref (g 7), .long z])), ((g 1), .inl (E.2.1, 47, .inl (y 0))), ((g 2), .inl (E.2.1, 47, .inl (y 1))), ((g 3), .inl (E.2.1, 235, .inl (y 2))), ((g 4), .inl (E.2.1, 8, .inl (y 3))), ((g 5), .inl (E.2.1, 120, .inl (y 4))), ((g 6), .inl (E.2.1, 60, .inl (y 5))), ((g 7), .inl (E.2.1, 180, .inl (y 6)))]) (As := [.int ru, .int 0, .int 3]) (rest := []) C (c_X6_in l E ru 0 3 ) (gWS C kw_ml_X6_35 kw_st_X6_in kw_ini_X6 kw_code_X6_in ga_X6_in ⟨Nat.le_of_ble_eq_true rfl, Nat.le_of_ble_eq_true rfl⟩) [] [0, 1, 2, 3, 4, 5, 6, 7] [0, 1, 2, 3, 4, 5, 6, 7] rfl rfl rfl rfl (by decide) (fun _ => [((g 0), .inr (6, [.ref (g 1), .ref (g 2), .ref (g 3), .int (y 7 0), .ref (g 4), .int (y 7 1), .ref (g 5), .int (y 7 2), .int (y 7 3), .int (y 7 4), .int (y 7 5), .ref (g 6), .ref (g 7), .long z])), ((g 1), .inl (E.2.1, 47, .inl (y 0))), ((g 2), .inl (E.2.1, 47, .inl (y 1))), ((g 3), .inl (E.2.1, 235, .inl (y 2))), ((g 4), .inl (E.2.1, 8, .inl (y 3))), ((g 5), .inl (E.2.1, 120, .inl (y 4))), ((g 6), .inl (E.2.1, 60, .inl (y 5))), ((g 7), .inl (E.2.1, 180, .inl (y 6)))]) rfl (fun _ => rfl) rfl (Nat.le_of_ble_eq_true rfl) ⟨Nat.le_of_ble_eq_true rfl, Nat.le_of_ble_eq_true rfl⟩ rfl dX6_doAlarm_11 (fun r_4 _ e_5 => ?_)
    subst e_5
    refine x_ifB_eq (tgt := 30) C dX6_doAlarm_14 (by decide) (fun c_14 => ?_) (fun c_14 => ?_)
    · refine x_bipush (v := (-2)) C dX6_doAlarm_30 (by decide) ?_
      have q_6 : f_X6_doAlarm_y0 y q ru x n = (y 0) := (by unfold f_X6_doAlarm_y0; rw [if_pos c_5, if_neg c_14])
      exact x_iret C hr hlocks rfl () (Eq.symm (by unfold f_X6_doAlarm_r; rw [if_pos c_5, if_neg c_14])) (by rw [q_6]; exact gEq.rf _) dX6_doAlarm_32
    · refine x_iload_n C dX6_doAlarm_17 3 rfl ?_
      refine x_sipush (v := (-999)) C dX6_doAlarm_18 (by decide) ?_
      refine x_sipush (v := 999) C dX6_doAlarm_21 (by decide) ?_
      refine x_callSI (wc := []) (wr := [((g 0), .inr (6, [.ref (g 1), .ref (g 2), .ref (g 3), .int (y 7 0), .ref (g 4), .int (y 7 1), .ref (g 5), .int (y 7 2), .int (y 7 3), .int (y 7 4), .int (y 7 5), .ref (g 6), .ref (g 7), .long z])), ((g 1), .inl (E.2.1, 47, .inl (y 0))), ((g 2), .inl (E.2.1, 47, .inl (y 1))), ((g 3), .inl (E.2.1, 235, .inl (y 2))), ((g 4), .inl (E.2.1, 8, .inl (y 3))), ((g 5), .inl (E.2.1, 120, .inl (y 4))), ((g 6), .inl (E.2.1, 60, .inl (y 5))), ((g 7), .inl (E.2.1, 180, .inl (y 6)))]) (As := [.int x, .int (-999), .int 999]) (rest := []) C (c_X6_in l E x (-999) 999 ) (gWS C kw_ml_X6_35 kw_st_X6_in kw_ini_X6 kw_code_X6_in ga_X6_in ⟨Nat.le_of_ble_eq_true rfl, Nat.le_of_ble_eq_true rfl⟩) [] [0, 1, 2, 3, 4, 5, 6, 7] [0, 1, 2, 3, 4, 5, 6, 7] rfl rfl rfl rfl (by decide) (fun _ => [((g 0), .inr (6, [.ref (g 1), .ref (g 2), .ref (g 3), .int (y 7 0), .ref (g 4), .int (y 7 1), .ref (g 5), .int (y 7 2), .int (y 7 3), .int (y 7 4), .int (y 7 5), .ref (g 6), .ref (g 7), .long z])), ((g 1), .inl (E.2.1, 47, .inl (y 0))), ((g 2), .inl (E.2.1, 47, .inl (y 1))), ((g 3), .inl (E.2.1, 235, .inl (y 2))), ((g 4), .inl (E.2.1, 8, .inl (y 3))), ((g 5), .inl (E.2.1, 120, .inl (y 4))), ((g 6), .inl (E.2.1, 60, .inl (y 5))), ((g 7), .inl (E.2.1, 180, .inl (y 6)))]) rfl (fun _ => rfl) rfl (Nat.le_of_ble_eq_true rfl) ⟨Nat.le_of_ble_eq_true rfl, Nat.le_of_ble_eq_true rfl⟩ rfl dX6_doAlarm_24 (fun r_7 _ e_8 => ?_)
      subst e_8
      refine x_ifB_ne (tgt := 33) C dX6_doAlarm_27 (by decide) (fun c_27 => ?_) (fun c_27 => ?_)
      · refine x_aload_n C dX6_doAlarm_33 0 rfl ?_
        refine x_get (ref := "RomSearchBusModel") (v := .ref (g 1)) C inX6 0 0 rfl rfl (by decide) kw_fl_X6_7 rfl rfl dX6_doAlarm_34 ?_
        refine x_iconst (v := 1) C dX6_doAlarm_37 (by decide) ?_
        refine x_iconst (v := 4) C dX6_doAlarm_38 (by decide) ?_
        refine x_iload_n C dX6_doAlarm_39 1 rfl ?_
        refine x_imul C dX6_doAlarm_40 ?_
        refine x_iadd C dX6_doAlarm_41 ?_
        refine x_iconst (v := 2) C dX6_doAlarm_42 (by decide) ?_
        refine x_iadd C dX6_doAlarm_43 ?_
        refine x_iload_n C dX6_doAlarm_44 2 rfl ?_
        refine x_iastN (K := (1 + 4 * q.toNatClampNeg + 2)) C 1 rfl (by rw [(i32_in2 c_5 hn h8).2, nI_clamp (by have z0 := (i32_in2 c_5 hn h8).1; omega)]; exact ixD _ 2) (by have z0 := (i32_in2 c_5 hn h8).1; omega) (by decide) [((g 0), .inr (6, [.ref (g 1), .ref (g 2), .ref (g 3), .int (y 7 0), .ref (g 4), .int (y 7 1), .ref (g 5), .int (y 7 2), .int (y 7 3), .int (y 7 4), .int (y 7 5), .ref (g 6), .ref (g 7), .long z])), ((g 1), .inl (E.2.1, 47, .inl (upd (y 0) (1 + 4 * q.toNatClampNeg + 2) ru))), ((g 2), .inl (E.2.1, 47, .inl (y 1))), ((g 3), .inl (E.2.1, 235, .inl (y 2))), ((g 4), .inl (E.2.1, 8, .inl (y 3))), ((g 5), .inl (E.2.1, 120, .inl (y 4))), ((g 6), .inl (E.2.1, 60, .inl (y 5))), ((g 7), .inl (E.2.1, 180, .inl (y 6)))] rfl dX6_doAlarm_45 ?_
        refine x_aload_n C dX6_doAlarm_46 0 rfl ?_
        refine x_get (ref := "RomSearchBusModel") (v := .ref (g 1)) C inX6 0 0 rfl rfl (by decide) kw_fl_X6_7 rfl rfl dX6_doAlarm_47 ?_
        refine x_iconst (v := 1) C dX6_doAlarm_50 (by decide) ?_
        refine x_iconst (v := 4) C dX6_doAlarm_51 (by decide) ?_
        refine x_iload_n C dX6_doAlarm_52 1 rfl ?_
        refine x_imul C dX6_doAlarm_53 ?_
        refine x_iadd C dX6_doAlarm_54 ?_
        refine x_iconst (v := 3) C dX6_doAlarm_55 (by decide) ?_
        refine x_iadd C dX6_doAlarm_56 ?_
        refine x_iload_n C dX6_doAlarm_57 3 rfl ?_
        refine x_iastN (K := (1 + 4 * q.toNatClampNeg + 3)) C 1 rfl (by rw [(i32_in2 c_5 hn h8).2, nI_clamp (by have z0 := (i32_in2 c_5 hn h8).1; omega)]; exact ixD _ 3) (by have z0 := (i32_in2 c_5 hn h8).1; omega) (by decide) [((g 0), .inr (6, [.ref (g 1), .ref (g 2), .ref (g 3), .int (y 7 0), .ref (g 4), .int (y 7 1), .ref (g 5), .int (y 7 2), .int (y 7 3), .int (y 7 4), .int (y 7 5), .ref (g 6), .ref (g 7), .long z])), ((g 1), .inl (E.2.1, 47, .inl (upd (upd (y 0) (1 + 4 * q.toNatClampNeg + 2) ru) (1 + 4 * q.toNatClampNeg + 3) x))), ((g 2), .inl (E.2.1, 47, .inl (y 1))), ((g 3), .inl (E.2.1, 235, .inl (y 2))), ((g 4), .inl (E.2.1, 8, .inl (y 3))), ((g 5), .inl (E.2.1, 120, .inl (y 4))), ((g 6), .inl (E.2.1, 60, .inl (y 5))), ((g 7), .inl (E.2.1, 180, .inl (y 6)))] rfl dX6_doAlarm_58 ?_
        refine x_aload_n C dX6_doAlarm_59 0 rfl ?_
        refine x_iload_n C dX6_doAlarm_60 1 rfl ?_
        refine x_callVI (wc := [((g 0), .inr (6, [.ref (g 1), .ref (g 2), .ref (g 3), .int (y 7 0), .ref (g 4), .int (y 7 1), .ref (g 5), .int (y 7 2), .int (y 7 3), .int (y 7 4), .int (y 7 5), .ref (g 6), .ref (g 7), .long z])), ((g 1), .inl (E.2.1, 47, .inl (upd (upd (y 0) (1 + 4 * q.toNatClampNeg + 2) ru) (1 + 4 * q.toNatClampNeg + 3) x))), ((g 2), .inl (E.2.1, 47, .inl (y 1))), ((g 3), .inl (E.2.1, 235, .inl (y 2))), ((g 4), .inl (E.2.1, 8, .inl (y 3))), ((g 5), .inl (E.2.1, 120, .inl (y 4))), ((g 6), .inl (E.2.1, 60, .inl (y 5))), ((g 7), .inl (E.2.1, 180, .inl (y 6)))]) (wr := []) (As := [.int q]) (rest := []) (ci := 6) (q0 := 0) C (c_X6_alarmed l E g (rs (rs y 0 (1 + 4 * q.toNatClampNeg + 2) ru) 0 (1 + 4 * q.toNatClampNeg + 3) x) z q q.toNatClampNeg (i32_in2 c_5 hn h8).2 (Nat.lt_of_lt_of_le (i32_in2 c_5 hn h8).1 h8)) (gWV C kw_ml_X6_63 kw_im_X6_alarmed kw_sel_X6_alarmed kw_ini_X6 kw_code_X6_alarmed ga_X6_alarmed ⟨Nat.le_of_ble_eq_true rfl, Nat.le_of_ble_eq_true rfl⟩) rfl rfl [0, 1, 2, 3, 4, 5, 6, 7] [] [0, 1, 2, 3, 4, 5, 6, 7] rfl rfl rfl rfl (by decide) (fun _ => [((g 0), .inr (6, [.ref (g 1), .ref (g 2), .ref (g 3), .int (y 7 0), .ref (g 4), .int (y 7 1), .ref (g 5), .int (y 7 2), .int (y 7 3), .int (y 7 4), .int (y 7 5), .ref (g 6), .ref (g 7), .long z])), ((g 1), .inl (E.2.1, 47, .inl (upd (upd (y 0) (1 + 4 * q.toNatClampNeg + 2) ru) (1 + 4 * q.toNatClampNeg + 3) x))), ((g 2), .inl (E.2.1, 47, .inl (y 1))), ((g 3), .inl (E.2.1, 235, .inl (y 2))), ((g 4), .inl (E.2.1, 8, .inl (y 3))), ((g 5), .inl (E.2.1, 120, .inl (y 4))), ((g 6), .inl (E.2.1, 60, .inl (y 5))), ((g 7), .inl (E.2.1, 180, .inl (y 6)))]) rfl (fun _ => rfl) rfl (Nat.le_of_ble_eq_true rfl) ⟨Nat.le_of_ble_eq_true rfl, Nat.le_of_ble_eq_true rfl⟩ rfl dX6_doAlarm_61 (fun r_9 _ e_10 => ?_)
        subst e_10
        have q_11 : f_X6_doAlarm_y0 y q ru x n = (upd (upd (y 0) (1 + 4 * q.toNatClampNeg + 2) ru) (1 + 4 * q.toNatClampNeg + 3) x) := (by unfold f_X6_doAlarm_y0; rw [if_pos c_5, if_pos c_14, if_pos c_27])
        exact x_iret C hr hlocks rfl () (Eq.symm (by unfold f_X6_doAlarm_r; rw [if_pos c_5, if_pos c_14, if_pos c_27])) (by rw [q_11]; exact gEq.rf _) dX6_doAlarm_64
      · refine x_bipush (v := (-2)) C dX6_doAlarm_30 (by decide) ?_
        have q_12 : f_X6_doAlarm_y0 y q ru x n = (y 0) := (by unfold f_X6_doAlarm_y0; rw [if_pos c_5, if_pos c_14, if_neg c_27])
        exact x_iret C hr hlocks rfl () (Eq.symm (by unfold f_X6_doAlarm_r; rw [if_pos c_5, if_pos c_14, if_neg c_27])) (by rw [q_12]; exact gEq.rf _) dX6_doAlarm_32
set_option maxHeartbeats 4000000 in
set_option maxRecDepth 100000 in
theorem c_X6_alarms (l : Launch) (E : gE) (g : Nat → Nat) (y : Nat → Nat → Int32) (z : Int64) (n : Nat) (hn : y 0 0 = nI n) (h8 : n ≤ 8) : CtI l E yX6_alarms prog_8_method_25_code 3 (some .int) 2 45 0 0 [.ref (g 0)] [((g 0), .inr (6, [.ref (g 1), .ref (g 2), .ref (g 3), .int (y 7 0), .ref (g 4), .int (y 7 1), .ref (g 5), .int (y 7 2), .int (y 7 3), .int (y 7 4), .int (y 7 5), .ref (g 6), .ref (g 7), .long z])), ((g 1), .inl (E.2.1, 47, .inl (y 0))), ((g 2), .inl (E.2.1, 47, .inl (y 1))), ((g 3), .inl (E.2.1, 235, .inl (y 2))), ((g 4), .inl (E.2.1, 8, .inl (y 3))), ((g 5), .inl (E.2.1, 120, .inl (y 4))), ((g 6), .inl (E.2.1, 60, .inl (y 5))), ((g 7), .inl (E.2.1, 180, .inl (y 6)))] (fun r (_ : Unit) => r = (maS (y 0) n)) (fun _ => [((g 0), .inr (6, [.ref (g 1), .ref (g 2), .ref (g 3), .int (y 7 0), .ref (g 4), .int (y 7 1), .ref (g 5), .int (y 7 2), .int (y 7 3), .int (y 7 4), .int (y 7 5), .ref (g 6), .ref (g 7), .long z])), ((g 1), .inl (E.2.1, 47, .inl (y 0))), ((g 2), .inl (E.2.1, 47, .inl (y 1))), ((g 3), .inl (E.2.1, 235, .inl (y 2))), ((g 4), .inl (E.2.1, 8, .inl (y 3))), ((g 5), .inl (E.2.1, 120, .inl (y 4))), ((g 6), .inl (E.2.1, 60, .inl (y 5))), ((g 7), .inl (E.2.1, 180, .inl (y 6)))]) := by
  refine CtI.start (by decide) (Nat.le_of_ble_eq_true rfl) ?_
  intro p_ e_ s_ m_ below_ meth_ c_ A_ C hr hlocks hnm
  refine Wd.cast (lv1 := [(0, .ref (g 0))]) rfl rfl rfl ?_
  refine x_iconst (v := 0) C dX6_alarms_0 (by decide) ?_
  refine x_istore_n (lv1 := [(1, .int 0), (0, .ref (g 0))]) C dX6_alarms_1 (by decide) rfl ?_
  refine x_iconst (v := 0) C dX6_alarms_2 (by decide) ?_
  refine x_istore_n (lv1 := [(2, .int 0), (1, .int 0), (0, .ref (g 0))]) C dX6_alarms_3 (by decide) rfl ?_
  refine Wd.locs (lv1 := [(0, .ref (g 0)), (1, .int 0), (2, .int 0)]) [2, 1, 0] rfl ?_
  refine Wd.cast (w1 := [((g 0), .inr (6, [.ref (g 1), .ref (g 2), .ref (g 3), .int (y 7 0), .ref (g 4), .int (y 7 1), .ref (g 5), .int (y 7 2), .int (y 7 3), .int (y 7 4), .int (y 7 5), .ref (g 6), .ref (g 7), .long z])), ((g 1), .inl (E.2.1, 47, .inl (y 0))), ((g 2), .inl (E.2.1, 47, .inl (y 1))), ((g 3), .inl (E.2.1, 235, .inl (y 2))), ((g 4), .inl (E.2.1, 8, .inl (y 3))), ((g 5), .inl (E.2.1, 120, .inl (y 4))), ((g 6), .inl (E.2.1, 60, .inl (y 5))), ((g 7), .inl (E.2.1, 180, .inl (y 6)))]) (lv1 := [(0, .ref (g 0)), (1, .int (maS (y 0) 0)), (2, .int (nI 0))]) rfl rfl rfl ?_
  refine Wd.up (W1 := fun k => [((g 0), .inr (6, [.ref (g 1), .ref (g 2), .ref (g 3), .int (y 7 0), .ref (g 4), .int (y 7 1), .ref (g 5), .int (y 7 2), .int (y 7 3), .int (y 7 4), .int (y 7 5), .ref (g 6), .ref (g 7), .long z])), ((g 1), .inl (E.2.1, 47, .inl (y 0))), ((g 2), .inl (E.2.1, 47, .inl (y 1))), ((g 3), .inl (E.2.1, 235, .inl (y 2))), ((g 4), .inl (E.2.1, 8, .inl (y 3))), ((g 5), .inl (E.2.1, 120, .inl (y 4))), ((g 6), .inl (E.2.1, 60, .inl (y 5))), ((g 7), .inl (E.2.1, 180, .inl (y 6)))]) (LV := fun k => [(0, .ref (g 0)), (1, .int (maS (y 0) k)), (2, .int (nI k))]) (fun k => True) 0 n (by omega) (trivial) (fun hI => ?_) (fun k hk0 hk hI ih => ?_)
  · refine Wd.cast (w1 := [((g 0), .inr (6, [.ref (g 1), .ref (g 2), .ref (g 3), .int (y 7 0), .ref (g 4), .int (y 7 1), .ref (g 5), .int (y 7 2), .int (y 7 3), .int (y 7 4), .int (y 7 5), .ref (g 6), .ref (g 7), .long z])), ((g 1), .inl (E.2.1, 47, .inl (y 0))), ((g 2), .inl (E.2.1, 47, .inl (y 1))), ((g 3), .inl (E.2.1, 235, .inl (y 2))), ((g 4), .inl (E.2.1, 8, .inl (y 3))), ((g 5), .inl (E.2.1, 120, .inl (y 4))), ((g 6), .inl (E.2.1, 60, .inl (y 5))), ((g 7), .inl (E.2.1, 180, .inl (y 6)))]) (lv1 := [(0, .ref (g 0)), (1, .int (maS (y 0) n)), (2, .int (nI n))]) rfl rfl rfl ?_
    refine x_iload_n C dX6_alarms_4 2 rfl ?_
    refine x_aload_n C dX6_alarms_5 0 rfl ?_
    refine x_get (ref := "RomSearchBusModel") (v := .ref (g 1)) C inX6 0 0 rfl rfl (by decide) kw_fl_X6_7 rfl rfl dX6_alarms_6 ?_
    refine x_iconst (v := 0) C dX6_alarms_9 (by decide) ?_
    refine x_ialdN (K := 0) (x := (y 0 0)) C 1 rfl (by decide) (by decide) (by decide) rfl dX6_alarms_10 ?_
    refine x_icmp_ge (tgt := 30) C dX6_alarms_11 (by decide) (fun c_11 => ?_) (fun c_11 => absurd (by rw [hn]; exact Int32.le_refl _) c_11)
    refine x_iload_n C dX6_alarms_30 1 rfl ?_
    exact x_iret C hr hlocks rfl () rfl (gEq.rf _) dX6_alarms_31
  · refine Wd.cast (w1 := [((g 0), .inr (6, [.ref (g 1), .ref (g 2), .ref (g 3), .int (y 7 0), .ref (g 4), .int (y 7 1), .ref (g 5), .int (y 7 2), .int (y 7 3), .int (y 7 4), .int (y 7 5), .ref (g 6), .ref (g 7), .long z])), ((g 1), .inl (E.2.1, 47, .inl (y 0))), ((g 2), .inl (E.2.1, 47, .inl (y 1))), ((g 3), .inl (E.2.1, 235, .inl (y 2))), ((g 4), .inl (E.2.1, 8, .inl (y 3))), ((g 5), .inl (E.2.1, 120, .inl (y 4))), ((g 6), .inl (E.2.1, 60, .inl (y 5))), ((g 7), .inl (E.2.1, 180, .inl (y 6)))]) (lv1 := [(0, .ref (g 0)), (1, .int (maS (y 0) k)), (2, .int (nI k))]) rfl rfl rfl ?_
    refine x_iload_n C dX6_alarms_4 2 rfl ?_
    refine x_aload_n C dX6_alarms_5 0 rfl ?_
    refine x_get (ref := "RomSearchBusModel") (v := .ref (g 1)) C inX6 0 0 rfl rfl (by decide) kw_fl_X6_7 rfl rfl dX6_alarms_6 ?_
    refine x_iconst (v := 0) C dX6_alarms_9 (by decide) ?_
    refine x_ialdN (K := 0) (x := (y 0 0)) C 1 rfl (by decide) (by decide) (by decide) rfl dX6_alarms_10 ?_
    refine x_icmp_ge (tgt := 30) C dX6_alarms_11 (by decide) (fun c_11 => absurd c_11 (by rw [hn]; exact nI_ge hk (by omega))) (fun c_11 => ?_)
    refine x_iload_n C dX6_alarms_14 1 rfl ?_
    refine x_aload_n C dX6_alarms_15 0 rfl ?_
    refine x_iload_n C dX6_alarms_16 2 rfl ?_
    refine x_callVI (wc := [((g 0), .inr (6, [.ref (g 1), .ref (g 2), .ref (g 3), .int (y 7 0), .ref (g 4), .int (y 7 1), .ref (g 5), .int (y 7 2), .int (y 7 3), .int (y 7 4), .int (y 7 5), .ref (g 6), .ref (g 7), .long z])), ((g 1), .inl (E.2.1, 47, .inl (y 0))), ((g 2), .inl (E.2.1, 47, .inl (y 1))), ((g 3), .inl (E.2.1, 235, .inl (y 2))), ((g 4), .inl (E.2.1, 8, .inl (y 3))), ((g 5), .inl (E.2.1, 120, .inl (y 4))), ((g 6), .inl (E.2.1, 60, .inl (y 5))), ((g 7), .inl (E.2.1, 180, .inl (y 6)))]) (wr := []) (As := [.int (nI k)]) (rest := [.int (maS (y 0) k)]) (ci := 6) (q0 := 0) C (c_X6_alarmed l E g y z (nI k) k rfl (by omega)) (gWV C kw_ml_X6_63 kw_im_X6_alarmed kw_sel_X6_alarmed kw_ini_X6 kw_code_X6_alarmed ga_X6_alarmed ⟨Nat.le_of_ble_eq_true rfl, Nat.le_of_ble_eq_true rfl⟩) rfl rfl [0, 1, 2, 3, 4, 5, 6, 7] [] [0, 1, 2, 3, 4, 5, 6, 7] rfl rfl rfl rfl (by decide) (fun _ => [((g 0), .inr (6, [.ref (g 1), .ref (g 2), .ref (g 3), .int (y 7 0), .ref (g 4), .int (y 7 1), .ref (g 5), .int (y 7 2), .int (y 7 3), .int (y 7 4), .int (y 7 5), .ref (g 6), .ref (g 7), .long z])), ((g 1), .inl (E.2.1, 47, .inl (y 0))), ((g 2), .inl (E.2.1, 47, .inl (y 1))), ((g 3), .inl (E.2.1, 235, .inl (y 2))), ((g 4), .inl (E.2.1, 8, .inl (y 3))), ((g 5), .inl (E.2.1, 120, .inl (y 4))), ((g 6), .inl (E.2.1, 60, .inl (y 5))), ((g 7), .inl (E.2.1, 180, .inl (y 6)))]) rfl (fun _ => rfl) rfl (Nat.le_of_ble_eq_true rfl) ⟨Nat.le_of_ble_eq_true rfl, Nat.le_of_ble_eq_true rfl⟩ rfl dX6_alarms_17 (fun r_1 _ e_2 => ?_)
    subst e_2
    refine x_iload_n C dX6_alarms_20 2 rfl ?_
    refine x_ishl C dX6_alarms_21 ?_
    refine x_ior C dX6_alarms_22 ?_
    refine x_istore_n (lv1 := [(1, .int ((maS (y 0) k) ||| ((if alarmB (y 0 (1 + 4 * k + 1)) (y 0 (1 + 4 * k + 2)) (y 0 (1 + 4 * k + 3)) = true then 1 else 0) <<< ((nI k) &&& 31)))), (0, .ref (g 0)), (2, .int (nI k))]) C dX6_alarms_23 (by decide) rfl ?_
    refine x_iinc (j := 2) (v := (nI (k + 1))) (lv1 := [(2, .int (nI (k + 1))), (1, .int ((maS (y 0) k) ||| ((if alarmB (y 0 (1 + 4 * k + 1)) (y 0 (1 + 4 * k + 2)) (y 0 (1 + 4 * k + 3)) = true then 1 else 0) <<< ((nI k) &&& 31)))), (0, .ref (g 0))]) C dX6_alarms_24 rfl (nI_1 _) (by decide) rfl ?_
    refine x_goto (tgt := 4) C dX6_alarms_27 (by decide) ?_
    refine Wd.locs (lv1 := [(0, .ref (g 0)), (1, .int ((maS (y 0) k) ||| ((if alarmB (y 0 (1 + 4 * k + 1)) (y 0 (1 + 4 * k + 2)) (y 0 (1 + 4 * k + 3)) = true then 1 else 0) <<< ((nI k) &&& 31)))), (2, .int (nI (k + 1)))]) [2, 1, 0] rfl ?_
    exact Wd.cast (w1 := [((g 0), .inr (6, [.ref (g 1), .ref (g 2), .ref (g 3), .int (y 7 0), .ref (g 4), .int (y 7 1), .ref (g 5), .int (y 7 2), .int (y 7 3), .int (y 7 4), .int (y 7 5), .ref (g 6), .ref (g 7), .long z])), ((g 1), .inl (E.2.1, 47, .inl (y 0))), ((g 2), .inl (E.2.1, 47, .inl (y 1))), ((g 3), .inl (E.2.1, 235, .inl (y 2))), ((g 4), .inl (E.2.1, 8, .inl (y 3))), ((g 5), .inl (E.2.1, 120, .inl (y 4))), ((g 6), .inl (E.2.1, 60, .inl (y 5))), ((g 7), .inl (E.2.1, 180, .inl (y 6)))]) (lv1 := [(0, .ref (g 0)), (1, .int (maS (y 0) (k + 1))), (2, .int (nI (k + 1)))]) rfl rfl rfl (ih trivial)
set_option maxHeartbeats 4000000 in
set_option maxRecDepth 100000 in
theorem c_X6_reset (l : Launch) (E : gE) (g : Nat → Nat) (y : Nat → Nat → Int32) (z : Int64)  : CtV l E yX6_reset prog_8_method_27_code 1 none 0 0 0 0 [.ref (g 0)] [((g 0), .inr (6, [.ref (g 1), .ref (g 2), .ref (g 3), .int (y 7 0), .ref (g 4), .int (y 7 1), .ref (g 5), .int (y 7 2), .int (y 7 3), .int (y 7 4), .int (y 7 5), .ref (g 6), .ref (g 7), .long z])), ((g 1), .inl (E.2.1, 47, .inl (y 0))), ((g 2), .inl (E.2.1, 47, .inl (y 1))), ((g 3), .inl (E.2.1, 235, .inl (y 2))), ((g 4), .inl (E.2.1, 8, .inl (y 3))), ((g 5), .inl (E.2.1, 120, .inl (y 4))), ((g 6), .inl (E.2.1, 60, .inl (y 5))), ((g 7), .inl (E.2.1, 180, .inl (y 6)))] (fun _ : Unit => True) (fun _ => [((g 0), .inr (6, [.ref (g 1), .ref (g 2), .ref (g 3), .int (y 7 0), .ref (g 4), .int (y 7 1), .ref (g 5), .int (y 7 2), .int (y 7 3), .int (y 7 4), .int (y 7 5), .ref (g 6), .ref (g 7), .long z])), ((g 1), .inl (E.2.1, 47, .inl (resetG (y 0)))), ((g 2), .inl (E.2.1, 47, .inl (y 1))), ((g 3), .inl (E.2.1, 235, .inl (y 2))), ((g 4), .inl (E.2.1, 8, .inl (y 3))), ((g 5), .inl (E.2.1, 120, .inl (y 4))), ((g 6), .inl (E.2.1, 60, .inl (y 5))), ((g 7), .inl (E.2.1, 180, .inl (y 6)))]) := by
  refine CtV.start (by decide) (Nat.le_of_ble_eq_true rfl) ?_
  intro p_ e_ s_ m_ below_ meth_ c_ A_ C hr hlocks hnm
  refine Wd.cast (lv1 := [(0, .ref (g 0))]) rfl rfl rfl ?_
  refine x_aload_n C dX6_reset_0 0 rfl ?_
  refine x_get (ref := "RomSearchBusModel") (v := .ref (g 1)) C inX6 0 0 rfl rfl (by decide) kw_fl_X6_7 rfl rfl dX6_reset_1 ?_
  refine x_bipush (v := 33) C dX6_reset_4 (by decide) ?_
  refine x_iconst (v := 0) C dX6_reset_6 (by decide) ?_
  refine x_iastN (K := 33) C 1 rfl (by decide) (by decide) (by decide) [((g 0), .inr (6, [.ref (g 1), .ref (g 2), .ref (g 3), .int (y 7 0), .ref (g 4), .int (y 7 1), .ref (g 5), .int (y 7 2), .int (y 7 3), .int (y 7 4), .int (y 7 5), .ref (g 6), .ref (g 7), .long z])), ((g 1), .inl (E.2.1, 47, .inl (upd (y 0) 33 0))), ((g 2), .inl (E.2.1, 47, .inl (y 1))), ((g 3), .inl (E.2.1, 235, .inl (y 2))), ((g 4), .inl (E.2.1, 8, .inl (y 3))), ((g 5), .inl (E.2.1, 120, .inl (y 4))), ((g 6), .inl (E.2.1, 60, .inl (y 5))), ((g 7), .inl (E.2.1, 180, .inl (y 6)))] rfl dX6_reset_7 ?_
  refine x_aload_n C dX6_reset_8 0 rfl ?_
  refine x_get (ref := "RomSearchBusModel") (v := .ref (g 1)) C inX6 0 0 rfl rfl (by decide) kw_fl_X6_7 rfl rfl dX6_reset_9 ?_
  refine x_bipush (v := 34) C dX6_reset_12 (by decide) ?_
  refine x_iconst (v := (-1)) C dX6_reset_14 (by decide) ?_
  refine x_iastN (K := 34) C 1 rfl (by decide) (by decide) (by decide) [((g 0), .inr (6, [.ref (g 1), .ref (g 2), .ref (g 3), .int (y 7 0), .ref (g 4), .int (y 7 1), .ref (g 5), .int (y 7 2), .int (y 7 3), .int (y 7 4), .int (y 7 5), .ref (g 6), .ref (g 7), .long z])), ((g 1), .inl (E.2.1, 47, .inl (upd (upd (y 0) 33 0) 34 (-1)))), ((g 2), .inl (E.2.1, 47, .inl (y 1))), ((g 3), .inl (E.2.1, 235, .inl (y 2))), ((g 4), .inl (E.2.1, 8, .inl (y 3))), ((g 5), .inl (E.2.1, 120, .inl (y 4))), ((g 6), .inl (E.2.1, 60, .inl (y 5))), ((g 7), .inl (E.2.1, 180, .inl (y 6)))] rfl dX6_reset_15 ?_
  refine x_aload_n C dX6_reset_16 0 rfl ?_
  refine x_get (ref := "RomSearchBusModel") (v := .ref (g 1)) C inX6 0 0 rfl rfl (by decide) kw_fl_X6_7 rfl rfl dX6_reset_17 ?_
  refine x_bipush (v := 35) C dX6_reset_20 (by decide) ?_
  refine x_iconst (v := (-1)) C dX6_reset_22 (by decide) ?_
  refine x_iastN (K := 35) C 1 rfl (by decide) (by decide) (by decide) [((g 0), .inr (6, [.ref (g 1), .ref (g 2), .ref (g 3), .int (y 7 0), .ref (g 4), .int (y 7 1), .ref (g 5), .int (y 7 2), .int (y 7 3), .int (y 7 4), .int (y 7 5), .ref (g 6), .ref (g 7), .long z])), ((g 1), .inl (E.2.1, 47, .inl (upd (upd (upd (y 0) 33 0) 34 (-1)) 35 (-1)))), ((g 2), .inl (E.2.1, 47, .inl (y 1))), ((g 3), .inl (E.2.1, 235, .inl (y 2))), ((g 4), .inl (E.2.1, 8, .inl (y 3))), ((g 5), .inl (E.2.1, 120, .inl (y 4))), ((g 6), .inl (E.2.1, 60, .inl (y 5))), ((g 7), .inl (E.2.1, 180, .inl (y 6)))] rfl dX6_reset_23 ?_
  refine x_aload_n C dX6_reset_24 0 rfl ?_
  refine x_get (ref := "RomSearchBusModel") (v := .ref (g 1)) C inX6 0 0 rfl rfl (by decide) kw_fl_X6_7 rfl rfl dX6_reset_25 ?_
  refine x_bipush (v := 36) C dX6_reset_28 (by decide) ?_
  refine x_iconst (v := 0) C dX6_reset_30 (by decide) ?_
  refine x_iastN (K := 36) C 1 rfl (by decide) (by decide) (by decide) [((g 0), .inr (6, [.ref (g 1), .ref (g 2), .ref (g 3), .int (y 7 0), .ref (g 4), .int (y 7 1), .ref (g 5), .int (y 7 2), .int (y 7 3), .int (y 7 4), .int (y 7 5), .ref (g 6), .ref (g 7), .long z])), ((g 1), .inl (E.2.1, 47, .inl (upd (upd (upd (upd (y 0) 33 0) 34 (-1)) 35 (-1)) 36 0))), ((g 2), .inl (E.2.1, 47, .inl (y 1))), ((g 3), .inl (E.2.1, 235, .inl (y 2))), ((g 4), .inl (E.2.1, 8, .inl (y 3))), ((g 5), .inl (E.2.1, 120, .inl (y 4))), ((g 6), .inl (E.2.1, 60, .inl (y 5))), ((g 7), .inl (E.2.1, 180, .inl (y 6)))] rfl dX6_reset_31 ?_
  exact x_vret C hr hlocks () trivial (gEq.rf _) dX6_reset_32
set_option maxHeartbeats 4000000 in
set_option maxRecDepth 100000 in
theorem c_X6_fail (l : Launch) (E : gE) (g : Nat → Nat) (y : Nat → Nat → Int32) (z : Int64) (q : Int32)  : CtI l E yX6_fail prog_8_method_28_code 2 (some .int) 1 20 0 0 [.ref (g 0), .int q] [((g 0), .inr (6, [.ref (g 1), .ref (g 2), .ref (g 3), .int (y 7 0), .ref (g 4), .int (y 7 1), .ref (g 5), .int (y 7 2), .int (y 7 3), .int (y 7 4), .int (y 7 5), .ref (g 6), .ref (g 7), .long z])), ((g 1), .inl (E.2.1, 47, .inl (y 0))), ((g 2), .inl (E.2.1, 47, .inl (y 1))), ((g 3), .inl (E.2.1, 235, .inl (y 2))), ((g 4), .inl (E.2.1, 8, .inl (y 3))), ((g 5), .inl (E.2.1, 120, .inl (y 4))), ((g 6), .inl (E.2.1, 60, .inl (y 5))), ((g 7), .inl (E.2.1, 180, .inl (y 6)))] (fun r (_ : Unit) => r = q) (fun _ => [((g 0), .inr (6, [.ref (g 1), .ref (g 2), .ref (g 3), .int (y 7 0), .ref (g 4), .int (y 7 1), .ref (g 5), .int (y 7 2), .int (y 7 3), .int (y 7 4), .int (y 7 5), .ref (g 6), .ref (g 7), .long z])), ((g 1), .inl (E.2.1, 47, .inl (resetG (y 0)))), ((g 2), .inl (E.2.1, 47, .inl (y 1))), ((g 3), .inl (E.2.1, 235, .inl (y 2))), ((g 4), .inl (E.2.1, 8, .inl (y 3))), ((g 5), .inl (E.2.1, 120, .inl (y 4))), ((g 6), .inl (E.2.1, 60, .inl (y 5))), ((g 7), .inl (E.2.1, 180, .inl (y 6)))]) := by
  refine CtI.start (by decide) (Nat.le_of_ble_eq_true rfl) ?_
  intro p_ e_ s_ m_ below_ meth_ c_ A_ C hr hlocks hnm
  refine Wd.cast (lv1 := [(0, .ref (g 0)), (1, .int q)]) rfl rfl rfl ?_
  refine x_aload_n C dX6_fail_0 0 rfl ?_
  refine x_callVV (wc := [((g 0), .inr (6, [.ref (g 1), .ref (g 2), .ref (g 3), .int (y 7 0), .ref (g 4), .int (y 7 1), .ref (g 5), .int (y 7 2), .int (y 7 3), .int (y 7 4), .int (y 7 5), .ref (g 6), .ref (g 7), .long z])), ((g 1), .inl (E.2.1, 47, .inl (y 0))), ((g 2), .inl (E.2.1, 47, .inl (y 1))), ((g 3), .inl (E.2.1, 235, .inl (y 2))), ((g 4), .inl (E.2.1, 8, .inl (y 3))), ((g 5), .inl (E.2.1, 120, .inl (y 4))), ((g 6), .inl (E.2.1, 60, .inl (y 5))), ((g 7), .inl (E.2.1, 180, .inl (y 6)))]) (wr := []) (As := []) (rest := []) (ci := 6) (q0 := 0) C (c_X6_reset l E g y z ) (gWV C kw_ml_X6_89 kw_im_X6_reset kw_sel_X6_reset kw_ini_X6 kw_code_X6_reset ga_X6_reset ⟨Nat.le_of_ble_eq_true rfl, Nat.le_of_ble_eq_true rfl⟩) rfl rfl [0, 1, 2, 3, 4, 5, 6, 7] [] [0, 1, 2, 3, 4, 5, 6, 7] rfl rfl rfl rfl (by decide) (fun _ => [((g 0), .inr (6, [.ref (g 1), .ref (g 2), .ref (g 3), .int (y 7 0), .ref (g 4), .int (y 7 1), .ref (g 5), .int (y 7 2), .int (y 7 3), .int (y 7 4), .int (y 7 5), .ref (g 6), .ref (g 7), .long z])), ((g 1), .inl (E.2.1, 47, .inl (resetG (y 0)))), ((g 2), .inl (E.2.1, 47, .inl (y 1))), ((g 3), .inl (E.2.1, 235, .inl (y 2))), ((g 4), .inl (E.2.1, 8, .inl (y 3))), ((g 5), .inl (E.2.1, 120, .inl (y 4))), ((g 6), .inl (E.2.1, 60, .inl (y 5))), ((g 7), .inl (E.2.1, 180, .inl (y 6)))]) rfl (fun _ => rfl) rfl (Nat.le_of_ble_eq_true rfl) ⟨Nat.le_of_ble_eq_true rfl, Nat.le_of_ble_eq_true rfl⟩ rfl dX6_fail_1 (fun _ e_2 => ?_)
  refine x_iload_n C dX6_fail_4 1 rfl ?_
  exact x_iret C hr hlocks rfl () rfl (gEq.rf _) dX6_fail_5
def f_X6_noisy_r (y : Nat → Nat → Int32) (q : Int32) (w : Int32) : Int32 := if (y 0 38) = q then (1 - w) else w
def f_X6_noisy_y0 (y : Nat → Nat → Int32) (q : Int32) (w : Int32) : Nat → Int32 := if (y 0 38) = q then (upd (y 0) 38 (-1)) else (y 0)
set_option maxHeartbeats 4000000 in
set_option maxRecDepth 100000 in
theorem c_X6_noisy (l : Launch) (E : gE) (g : Nat → Nat) (y : Nat → Nat → Int32) (z : Int64) (q : Int32) (w : Int32)  : CtI l E yX6_noisy prog_8_method_29_code 3 (some .int) 0 0 0 0 [.ref (g 0), .int q, .int w] [((g 0), .inr (6, [.ref (g 1), .ref (g 2), .ref (g 3), .int (y 7 0), .ref (g 4), .int (y 7 1), .ref (g 5), .int (y 7 2), .int (y 7 3), .int (y 7 4), .int (y 7 5), .ref (g 6), .ref (g 7), .long z])), ((g 1), .inl (E.2.1, 47, .inl (y 0))), ((g 2), .inl (E.2.1, 47, .inl (y 1))), ((g 3), .inl (E.2.1, 235, .inl (y 2))), ((g 4), .inl (E.2.1, 8, .inl (y 3))), ((g 5), .inl (E.2.1, 120, .inl (y 4))), ((g 6), .inl (E.2.1, 60, .inl (y 5))), ((g 7), .inl (E.2.1, 180, .inl (y 6)))] (fun r (_ : Unit) => r = f_X6_noisy_r y q w) (fun _ => [((g 0), .inr (6, [.ref (g 1), .ref (g 2), .ref (g 3), .int (y 7 0), .ref (g 4), .int (y 7 1), .ref (g 5), .int (y 7 2), .int (y 7 3), .int (y 7 4), .int (y 7 5), .ref (g 6), .ref (g 7), .long z])), ((g 1), .inl (E.2.1, 47, .inl (f_X6_noisy_y0 y q w))), ((g 2), .inl (E.2.1, 47, .inl (y 1))), ((g 3), .inl (E.2.1, 235, .inl (y 2))), ((g 4), .inl (E.2.1, 8, .inl (y 3))), ((g 5), .inl (E.2.1, 120, .inl (y 4))), ((g 6), .inl (E.2.1, 60, .inl (y 5))), ((g 7), .inl (E.2.1, 180, .inl (y 6)))]) := by
  refine CtI.start (by decide) (Nat.le_of_ble_eq_true rfl) ?_
  intro p_ e_ s_ m_ below_ meth_ c_ A_ C hr hlocks hnm
  refine Wd.cast (lv1 := [(0, .ref (g 0)), (1, .int q), (2, .int w)]) rfl rfl rfl ?_
  refine x_aload_n C dX6_noisy_0 0 rfl ?_
  refine x_get (ref := "RomSearchBusModel") (v := .ref (g 1)) C inX6 0 0 rfl rfl (by decide) kw_fl_X6_7 rfl rfl dX6_noisy_1 ?_
  refine x_bipush (v := 38) C dX6_noisy_4 (by decide) ?_
  refine x_ialdN (K := 38) (x := (y 0 38)) C 1 rfl (by decide) (by decide) (by decide) rfl dX6_noisy_6 ?_
  refine x_iload_n C dX6_noisy_7 1 rfl ?_
  refine x_icmp_eq (tgt := 13) C dX6_noisy_8 (by decide) (fun c_8 => ?_) (fun c_8 => ?_)
  · refine x_aload_n C dX6_noisy_13 0 rfl ?_
    refine x_get (ref := "RomSearchBusModel") (v := .ref (g 1)) C inX6 0 0 rfl rfl (by decide) kw_fl_X6_7 rfl rfl dX6_noisy_14 ?_
    refine x_bipush (v := 38) C dX6_noisy_17 (by decide) ?_
    refine x_iconst (v := (-1)) C dX6_noisy_19 (by decide) ?_
    refine x_iastN (K := 38) C 1 rfl (by decide) (by decide) (by decide) [((g 0), .inr (6, [.ref (g 1), .ref (g 2), .ref (g 3), .int (y 7 0), .ref (g 4), .int (y 7 1), .ref (g 5), .int (y 7 2), .int (y 7 3), .int (y 7 4), .int (y 7 5), .ref (g 6), .ref (g 7), .long z])), ((g 1), .inl (E.2.1, 47, .inl (upd (y 0) 38 (-1)))), ((g 2), .inl (E.2.1, 47, .inl (y 1))), ((g 3), .inl (E.2.1, 235, .inl (y 2))), ((g 4), .inl (E.2.1, 8, .inl (y 3))), ((g 5), .inl (E.2.1, 120, .inl (y 4))), ((g 6), .inl (E.2.1, 60, .inl (y 5))), ((g 7), .inl (E.2.1, 180, .inl (y 6)))] rfl dX6_noisy_20 ?_
    refine x_iconst (v := 1) C dX6_noisy_21 (by decide) ?_
    refine x_iload_n C dX6_noisy_22 2 rfl ?_
    refine x_isub C dX6_noisy_23 ?_
    have q_1 : f_X6_noisy_y0 y q w = (upd (y 0) 38 (-1)) := (by unfold f_X6_noisy_y0; rw [if_pos c_8])
    exact x_iret C hr hlocks rfl () (Eq.symm (by unfold f_X6_noisy_r; rw [if_pos c_8])) (by rw [q_1]; exact gEq.rf _) dX6_noisy_24
  · refine x_iload_n C dX6_noisy_11 2 rfl ?_
    have q_2 : f_X6_noisy_y0 y q w = (y 0) := (by unfold f_X6_noisy_y0; rw [if_neg c_8])
    exact x_iret C hr hlocks rfl () (Eq.symm (by unfold f_X6_noisy_r; rw [if_neg c_8])) (by rw [q_2]; exact gEq.rf _) dX6_noisy_12
set_option maxHeartbeats 4000000 in
set_option maxRecDepth 100000 in
theorem c_X6_wiredAnd (l : Launch) (E : gE) (g : Nat → Nat) (y : Nat → Nat → Int32) (z : Int64) (act : Int32) (q : Int32) (w : Int32) (n : Nat) (hn : y 0 0 = nI n) (h8 : n ≤ 8) : CtI l E yX6_wiredAnd prog_8_method_30_code 6 (some .int) 1 22 0 0 [.ref (g 0), .int act, .int q, .int w] [((g 0), .inr (6, [.ref (g 1), .ref (g 2), .ref (g 3), .int (y 7 0), .ref (g 4), .int (y 7 1), .ref (g 5), .int (y 7 2), .int (y 7 3), .int (y 7 4), .int (y 7 5), .ref (g 6), .ref (g 7), .long z])), ((g 1), .inl (E.2.1, 47, .inl (y 0))), ((g 2), .inl (E.2.1, 47, .inl (y 1))), ((g 3), .inl (E.2.1, 235, .inl (y 2))), ((g 4), .inl (E.2.1, 8, .inl (y 3))), ((g 5), .inl (E.2.1, 120, .inl (y 4))), ((g 6), .inl (E.2.1, 60, .inl (y 5))), ((g 7), .inl (E.2.1, 180, .inl (y 6)))] (fun r (_ : Unit) => r = (waS (y 0) act q w n)) (fun _ => [((g 0), .inr (6, [.ref (g 1), .ref (g 2), .ref (g 3), .int (y 7 0), .ref (g 4), .int (y 7 1), .ref (g 5), .int (y 7 2), .int (y 7 3), .int (y 7 4), .int (y 7 5), .ref (g 6), .ref (g 7), .long z])), ((g 1), .inl (E.2.1, 47, .inl (y 0))), ((g 2), .inl (E.2.1, 47, .inl (y 1))), ((g 3), .inl (E.2.1, 235, .inl (y 2))), ((g 4), .inl (E.2.1, 8, .inl (y 3))), ((g 5), .inl (E.2.1, 120, .inl (y 4))), ((g 6), .inl (E.2.1, 60, .inl (y 5))), ((g 7), .inl (E.2.1, 180, .inl (y 6)))]) := by
  refine CtI.start (by decide) (Nat.le_of_ble_eq_true rfl) ?_
  intro p_ e_ s_ m_ below_ meth_ c_ A_ C hr hlocks hnm
  refine Wd.cast (lv1 := [(0, .ref (g 0)), (1, .int act), (2, .int q), (3, .int w)]) rfl rfl rfl ?_
  refine x_iconst (v := 1) C dX6_wiredAnd_0 (by decide) ?_
  refine x_istore (lv1 := [(4, .int 1), (0, .ref (g 0)), (1, .int act), (2, .int q), (3, .int w)]) C dX6_wiredAnd_1 (by decide) rfl ?_
  refine x_iconst (v := 0) C dX6_wiredAnd_3 (by decide) ?_
  refine x_istore (lv1 := [(5, .int 0), (4, .int 1), (0, .ref (g 0)), (1, .int act), (2, .int q), (3, .int w)]) C dX6_wiredAnd_4 (by decide) rfl ?_
  refine Wd.locs (lv1 := [(0, .ref (g 0)), (1, .int act), (2, .int q), (3, .int w), (4, .int 1), (5, .int 0)]) [2, 3, 4, 5, 1, 0] rfl ?_
  refine Wd.cast (w1 := [((g 0), .inr (6, [.ref (g 1), .ref (g 2), .ref (g 3), .int (y 7 0), .ref (g 4), .int (y 7 1), .ref (g 5), .int (y 7 2), .int (y 7 3), .int (y 7 4), .int (y 7 5), .ref (g 6), .ref (g 7), .long z])), ((g 1), .inl (E.2.1, 47, .inl (y 0))), ((g 2), .inl (E.2.1, 47, .inl (y 1))), ((g 3), .inl (E.2.1, 235, .inl (y 2))), ((g 4), .inl (E.2.1, 8, .inl (y 3))), ((g 5), .inl (E.2.1, 120, .inl (y 4))), ((g 6), .inl (E.2.1, 60, .inl (y 5))), ((g 7), .inl (E.2.1, 180, .inl (y 6)))]) (lv1 := [(0, .ref (g 0)), (1, .int act), (2, .int q), (3, .int w), (4, .int (waS (y 0) act q w 0)), (5, .int (nI 0))]) rfl rfl rfl ?_
  refine Wd.up (W1 := fun k => [((g 0), .inr (6, [.ref (g 1), .ref (g 2), .ref (g 3), .int (y 7 0), .ref (g 4), .int (y 7 1), .ref (g 5), .int (y 7 2), .int (y 7 3), .int (y 7 4), .int (y 7 5), .ref (g 6), .ref (g 7), .long z])), ((g 1), .inl (E.2.1, 47, .inl (y 0))), ((g 2), .inl (E.2.1, 47, .inl (y 1))), ((g 3), .inl (E.2.1, 235, .inl (y 2))), ((g 4), .inl (E.2.1, 8, .inl (y 3))), ((g 5), .inl (E.2.1, 120, .inl (y 4))), ((g 6), .inl (E.2.1, 60, .inl (y 5))), ((g 7), .inl (E.2.1, 180, .inl (y 6)))]) (LV := fun k => [(0, .ref (g 0)), (1, .int act), (2, .int q), (3, .int w), (4, .int (waS (y 0) act q w k)), (5, .int (nI k))]) (fun k => True) 0 n (by omega) (trivial) (fun hI => ?_) (fun k hk0 hk hI ih => ?_)
  · refine Wd.cast (w1 := [((g 0), .inr (6, [.ref (g 1), .ref (g 2), .ref (g 3), .int (y 7 0), .ref (g 4), .int (y 7 1), .ref (g 5), .int (y 7 2), .int (y 7 3), .int (y 7 4), .int (y 7 5), .ref (g 6), .ref (g 7), .long z])), ((g 1), .inl (E.2.1, 47, .inl (y 0))), ((g 2), .inl (E.2.1, 47, .inl (y 1))), ((g 3), .inl (E.2.1, 235, .inl (y 2))), ((g 4), .inl (E.2.1, 8, .inl (y 3))), ((g 5), .inl (E.2.1, 120, .inl (y 4))), ((g 6), .inl (E.2.1, 60, .inl (y 5))), ((g 7), .inl (E.2.1, 180, .inl (y 6)))]) (lv1 := [(0, .ref (g 0)), (1, .int act), (2, .int q), (3, .int w), (4, .int (waS (y 0) act q w n)), (5, .int (nI n))]) rfl rfl rfl ?_
    refine x_iload C dX6_wiredAnd_6 5 rfl ?_
    refine x_aload_n C dX6_wiredAnd_8 0 rfl ?_
    refine x_get (ref := "RomSearchBusModel") (v := .ref (g 1)) C inX6 0 0 rfl rfl (by decide) kw_fl_X6_7 rfl rfl dX6_wiredAnd_9 ?_
    refine x_iconst (v := 0) C dX6_wiredAnd_12 (by decide) ?_
    refine x_ialdN (K := 0) (x := (y 0 0)) C 1 rfl (by decide) (by decide) (by decide) rfl dX6_wiredAnd_13 ?_
    refine x_icmp_ge (tgt := 56) C dX6_wiredAnd_14 (by decide) (fun c_14 => ?_) (fun c_14 => absurd (by rw [hn]; exact Int32.le_refl _) c_14)
    refine x_iload C dX6_wiredAnd_56 4 rfl ?_
    exact x_iret C hr hlocks rfl () rfl (gEq.rf _) dX6_wiredAnd_58
  · refine Wd.cast (w1 := [((g 0), .inr (6, [.ref (g 1), .ref (g 2), .ref (g 3), .int (y 7 0), .ref (g 4), .int (y 7 1), .ref (g 5), .int (y 7 2), .int (y 7 3), .int (y 7 4), .int (y 7 5), .ref (g 6), .ref (g 7), .long z])), ((g 1), .inl (E.2.1, 47, .inl (y 0))), ((g 2), .inl (E.2.1, 47, .inl (y 1))), ((g 3), .inl (E.2.1, 235, .inl (y 2))), ((g 4), .inl (E.2.1, 8, .inl (y 3))), ((g 5), .inl (E.2.1, 120, .inl (y 4))), ((g 6), .inl (E.2.1, 60, .inl (y 5))), ((g 7), .inl (E.2.1, 180, .inl (y 6)))]) (lv1 := [(0, .ref (g 0)), (1, .int act), (2, .int q), (3, .int w), (4, .int (waS (y 0) act q w k)), (5, .int (nI k))]) rfl rfl rfl ?_
    refine x_iload C dX6_wiredAnd_6 5 rfl ?_
    refine x_aload_n C dX6_wiredAnd_8 0 rfl ?_
    refine x_get (ref := "RomSearchBusModel") (v := .ref (g 1)) C inX6 0 0 rfl rfl (by decide) kw_fl_X6_7 rfl rfl dX6_wiredAnd_9 ?_
    refine x_iconst (v := 0) C dX6_wiredAnd_12 (by decide) ?_
    refine x_ialdN (K := 0) (x := (y 0 0)) C 1 rfl (by decide) (by decide) (by decide) rfl dX6_wiredAnd_13 ?_
    refine x_icmp_ge (tgt := 56) C dX6_wiredAnd_14 (by decide) (fun c_14 => absurd c_14 (by rw [hn]; exact nI_ge hk (by omega))) (fun c_14 => ?_)
    refine x_iload_n C dX6_wiredAnd_17 1 rfl ?_
    refine x_iload C dX6_wiredAnd_18 5 rfl ?_
    refine x_ishr C dX6_wiredAnd_20 ?_
    refine x_iconst (v := 1) C dX6_wiredAnd_21 (by decide) ?_
    refine x_iand C dX6_wiredAnd_22 ?_
    refine x_iconst (v := 1) C dX6_wiredAnd_23 (by decide) ?_
    refine x_icmp_ne (tgt := 46) C dX6_wiredAnd_24 (by decide) (fun c_24 => ?_) (fun c_24 => ?_)
    · refine x_iload C dX6_wiredAnd_46 4 rfl ?_
      refine x_istore (lv1 := [(4, .int (waS (y 0) act q w k)), (0, .ref (g 0)), (1, .int act), (2, .int q), (3, .int w), (5, .int (nI k))]) C dX6_wiredAnd_48 (by decide) rfl ?_
      refine x_iinc (j := 5) (v := (nI (k + 1))) (lv1 := [(5, .int (nI (k + 1))), (4, .int (waS (y 0) act q w k)), (0, .ref (g 0)), (1, .int act), (2, .int q), (3, .int w)]) C dX6_wiredAnd_50 rfl (nI_1 _) (by decide) rfl ?_
      refine x_goto (tgt := 6) C dX6_wiredAnd_53 (by decide) ?_
      refine Wd.locs (lv1 := [(0, .ref (g 0)), (1, .int act), (2, .int q), (3, .int w), (4, .int (waS (y 0) act q w k)), (5, .int (nI (k + 1)))]) [2, 3, 4, 5, 1, 0] rfl ?_
      have w_1 : waS (y 0) act q w k = waS (y 0) act q w (k + 1) := (by rw [waS_s, if_neg (fun z0 => c_24 z0.1)])
      exact Wd.cast (w1 := [((g 0), .inr (6, [.ref (g 1), .ref (g 2), .ref (g 3), .int (y 7 0), .ref (g 4), .int (y 7 1), .ref (g 5), .int (y 7 2), .int (y 7 3), .int (y 7 4), .int (y 7 5), .ref (g 6), .ref (g 7), .long z])), ((g 1), .inl (E.2.1, 47, .inl (y 0))), ((g 2), .inl (E.2.1, 47, .inl (y 1))), ((g 3), .inl (E.2.1, 235, .inl (y 2))), ((g 4), .inl (E.2.1, 8, .inl (y 3))), ((g 5), .inl (E.2.1, 120, .inl (y 4))), ((g 6), .inl (E.2.1, 60, .inl (y 5))), ((g 7), .inl (E.2.1, 180, .inl (y 6)))]) (lv1 := [(0, .ref (g 0)), (1, .int act), (2, .int q), (3, .int w), (4, .int (waS (y 0) act q w (k + 1))), (5, .int (nI (k + 1)))]) rfl (by first | (rw [w_1]; done) | (rw [← w_1]; done) | simp only [w_1]) rfl (ih trivial)
    · refine x_aload_n C dX6_wiredAnd_27 0 rfl ?_
      refine x_iload C dX6_wiredAnd_28 5 rfl ?_
      refine x_iconst (v := 0) C dX6_wiredAnd_30 (by decide) ?_
      refine x_callVI (wc := [((g 0), .inr (6, [.ref (g 1), .ref (g 2), .ref (g 3), .int (y 7 0), .ref (g 4), .int (y 7 1), .ref (g 5), .int (y 7 2), .int (y 7 3), .int (y 7 4), .int (y 7 5), .ref (g 6), .ref (g 7), .long z])), ((g 1), .inl (E.2.1, 47, .inl (y 0))), ((g 2), .inl (E.2.1, 47, .inl (y 1))), ((g 3), .inl (E.2.1, 235, .inl (y 2))), ((g 4), .inl (E.2.1, 8, .inl (y 3))), ((g 5), .inl (E.2.1, 120, .inl (y 4))), ((g 6), .inl (E.2.1, 60, .inl (y 5))), ((g 7), .inl (E.2.1, 180, .inl (y 6)))]) (wr := []) (As := [.int (nI k), .int 0]) (rest := []) (ci := 6) (q0 := 0) C (c_X6_of l E g y z (nI k) 0 k 0 rfl rfl (by omega)) (gWV C kw_ml_X6_53 kw_im_X6_of kw_sel_X6_of kw_ini_X6 kw_code_X6_of ga_X6_of ⟨Nat.le_of_ble_eq_true rfl, Nat.le_of_ble_eq_true rfl⟩) rfl rfl [0, 1, 2, 3, 4, 5, 6, 7] [] [0, 1, 2, 3, 4, 5, 6, 7] rfl rfl rfl rfl (by decide) (fun _ => [((g 0), .inr (6, [.ref (g 1), .ref (g 2), .ref (g 3), .int (y 7 0), .ref (g 4), .int (y 7 1), .ref (g 5), .int (y 7 2), .int (y 7 3), .int (y 7 4), .int (y 7 5), .ref (g 6), .ref (g 7), .long z])), ((g 1), .inl (E.2.1, 47, .inl (y 0))), ((g 2), .inl (E.2.1, 47, .inl (y 1))), ((g 3), .inl (E.2.1, 235, .inl (y 2))), ((g 4), .inl (E.2.1, 8, .inl (y 3))), ((g 5), .inl (E.2.1, 120, .inl (y 4))), ((g 6), .inl (E.2.1, 60, .inl (y 5))), ((g 7), .inl (E.2.1, 180, .inl (y 6)))]) rfl (fun _ => rfl) rfl (Nat.le_of_ble_eq_true rfl) ⟨Nat.le_of_ble_eq_true rfl, Nat.le_of_ble_eq_true rfl⟩ rfl dX6_wiredAnd_31 (fun r_2 _ e_3 => ?_)
      subst e_3
      refine x_iload_n C dX6_wiredAnd_34 2 rfl ?_
      refine x_ishr C dX6_wiredAnd_35 ?_
      refine x_iconst (v := 1) C dX6_wiredAnd_36 (by decide) ?_
      refine x_iand C dX6_wiredAnd_37 ?_
      refine x_iload_n C dX6_wiredAnd_38 3 rfl ?_
      refine x_icmp_eq (tgt := 46) C dX6_wiredAnd_39 (by decide) (fun c_39 => ?_) (fun c_39 => ?_)
      · refine x_iload C dX6_wiredAnd_46 4 rfl ?_
        refine x_istore (lv1 := [(4, .int (waS (y 0) act q w k)), (0, .ref (g 0)), (1, .int act), (2, .int q), (3, .int w), (5, .int (nI k))]) C dX6_wiredAnd_48 (by decide) rfl ?_
        refine x_iinc (j := 5) (v := (nI (k + 1))) (lv1 := [(5, .int (nI (k + 1))), (4, .int (waS (y 0) act q w k)), (0, .ref (g 0)), (1, .int act), (2, .int q), (3, .int w)]) C dX6_wiredAnd_50 rfl (nI_1 _) (by decide) rfl ?_
        refine x_goto (tgt := 6) C dX6_wiredAnd_53 (by decide) ?_
        refine Wd.locs (lv1 := [(0, .ref (g 0)), (1, .int act), (2, .int q), (3, .int w), (4, .int (waS (y 0) act q w k)), (5, .int (nI (k + 1)))]) [2, 3, 4, 5, 1, 0] rfl ?_
        have w_4 : waS (y 0) act q w k = waS (y 0) act q w (k + 1) := (by rw [waS_s, if_neg (fun z0 => z0.2 c_39)])
        exact Wd.cast (w1 := [((g 0), .inr (6, [.ref (g 1), .ref (g 2), .ref (g 3), .int (y 7 0), .ref (g 4), .int (y 7 1), .ref (g 5), .int (y 7 2), .int (y 7 3), .int (y 7 4), .int (y 7 5), .ref (g 6), .ref (g 7), .long z])), ((g 1), .inl (E.2.1, 47, .inl (y 0))), ((g 2), .inl (E.2.1, 47, .inl (y 1))), ((g 3), .inl (E.2.1, 235, .inl (y 2))), ((g 4), .inl (E.2.1, 8, .inl (y 3))), ((g 5), .inl (E.2.1, 120, .inl (y 4))), ((g 6), .inl (E.2.1, 60, .inl (y 5))), ((g 7), .inl (E.2.1, 180, .inl (y 6)))]) (lv1 := [(0, .ref (g 0)), (1, .int act), (2, .int q), (3, .int w), (4, .int (waS (y 0) act q w (k + 1))), (5, .int (nI (k + 1)))]) rfl (by first | (rw [w_4]; done) | (rw [← w_4]; done) | simp only [w_4]) rfl (ih trivial)
      · refine x_iconst (v := 0) C dX6_wiredAnd_42 (by decide) ?_
        refine x_goto (tgt := 48) C dX6_wiredAnd_43 (by decide) ?_
        refine x_istore (lv1 := [(4, .int 0), (0, .ref (g 0)), (1, .int act), (2, .int q), (3, .int w), (5, .int (nI k))]) C dX6_wiredAnd_48 (by decide) rfl ?_
        refine x_iinc (j := 5) (v := (nI (k + 1))) (lv1 := [(5, .int (nI (k + 1))), (4, .int 0), (0, .ref (g 0)), (1, .int act), (2, .int q), (3, .int w)]) C dX6_wiredAnd_50 rfl (nI_1 _) (by decide) rfl ?_
        refine x_goto (tgt := 6) C dX6_wiredAnd_53 (by decide) ?_
        refine Wd.locs (lv1 := [(0, .ref (g 0)), (1, .int act), (2, .int q), (3, .int w), (4, .int 0), (5, .int (nI (k + 1)))]) [2, 3, 4, 5, 1, 0] rfl ?_
        have w_5 : (0 : Int32) = waS (y 0) act q w (k + 1) := (by rw [waS_s, if_pos ⟨c_24, c_39⟩])
        exact Wd.cast (w1 := [((g 0), .inr (6, [.ref (g 1), .ref (g 2), .ref (g 3), .int (y 7 0), .ref (g 4), .int (y 7 1), .ref (g 5), .int (y 7 2), .int (y 7 3), .int (y 7 4), .int (y 7 5), .ref (g 6), .ref (g 7), .long z])), ((g 1), .inl (E.2.1, 47, .inl (y 0))), ((g 2), .inl (E.2.1, 47, .inl (y 1))), ((g 3), .inl (E.2.1, 235, .inl (y 2))), ((g 4), .inl (E.2.1, 8, .inl (y 3))), ((g 5), .inl (E.2.1, 120, .inl (y 4))), ((g 6), .inl (E.2.1, 60, .inl (y 5))), ((g 7), .inl (E.2.1, 180, .inl (y 6)))]) (lv1 := [(0, .ref (g 0)), (1, .int act), (2, .int q), (3, .int w), (4, .int (waS (y 0) act q w (k + 1))), (5, .int (nI (k + 1)))]) rfl (by first | (rw [w_5]; done) | (rw [← w_5]; done) | simp only [w_5]) rfl (ih trivial)
def f_X6_direction_r (y : Nat → Nat → Int32) (q : Int32) (i : Int32) (w : Int32) : Int32 := if i = w then (if (y 0 34) ≤ q then (if q = (y 0 34) then 1 else 0) else (((y 0 33) >>> (q &&& 31)) &&& 1)) else i
set_option maxHeartbeats 4000000 in
set_option maxRecDepth 100000 in
theorem c_X6_direction (l : Launch) (E : gE) (g : Nat → Nat) (y : Nat → Nat → Int32) (z : Int64) (q : Int32) (i : Int32) (w : Int32)  : CtI l E yX6_direction prog_8_method_31_code 4 (some .int) 0 0 0 0 [.ref (g 0), .int q, .int i, .int w] [((g 0), .inr (6, [.ref (g 1), .ref (g 2), .ref (g 3), .int (y 7 0), .ref (g 4), .int (y 7 1), .ref (g 5), .int (y 7 2), .int (y 7 3), .int (y 7 4), .int (y 7 5), .ref (g 6), .ref (g 7), .long z])), ((g 1), .inl (E.2.1, 47, .inl (y 0))), ((g 2), .inl (E.2.1, 47, .inl (y 1))), ((g 3), .inl (E.2.1, 235, .inl (y 2))), ((g 4), .inl (E.2.1, 8, .inl (y 3))), ((g 5), .inl (E.2.1, 120, .inl (y 4))), ((g 6), .inl (E.2.1, 60, .inl (y 5))), ((g 7), .inl (E.2.1, 180, .inl (y 6)))] (fun r (_ : Unit) => r = f_X6_direction_r y q i w) (fun _ => [((g 0), .inr (6, [.ref (g 1), .ref (g 2), .ref (g 3), .int (y 7 0), .ref (g 4), .int (y 7 1), .ref (g 5), .int (y 7 2), .int (y 7 3), .int (y 7 4), .int (y 7 5), .ref (g 6), .ref (g 7), .long z])), ((g 1), .inl (E.2.1, 47, .inl (y 0))), ((g 2), .inl (E.2.1, 47, .inl (y 1))), ((g 3), .inl (E.2.1, 235, .inl (y 2))), ((g 4), .inl (E.2.1, 8, .inl (y 3))), ((g 5), .inl (E.2.1, 120, .inl (y 4))), ((g 6), .inl (E.2.1, 60, .inl (y 5))), ((g 7), .inl (E.2.1, 180, .inl (y 6)))]) := by
  refine CtI.start (by decide) (Nat.le_of_ble_eq_true rfl) ?_
  intro p_ e_ s_ m_ below_ meth_ c_ A_ C hr hlocks hnm
  refine Wd.cast (lv1 := [(0, .ref (g 0)), (1, .int q), (2, .int i), (3, .int w)]) rfl rfl rfl ?_
  refine x_iload_n C dX6_direction_0 2 rfl ?_
  refine x_iload_n C dX6_direction_1 3 rfl ?_
  refine x_icmp_eq (tgt := 7) C dX6_direction_2 (by decide) (fun c_2 => ?_) (fun c_2 => ?_)
  · refine x_iload_n C dX6_direction_7 1 rfl ?_
    refine x_aload_n C dX6_direction_8 0 rfl ?_
    refine x_get (ref := "RomSearchBusModel") (v := .ref (g 1)) C inX6 0 0 rfl rfl (by decide) kw_fl_X6_7 rfl rfl dX6_direction_9 ?_
    refine x_bipush (v := 34) C dX6_direction_12 (by decide) ?_
    refine x_ialdN (K := 34) (x := (y 0 34)) C 1 rfl (by decide) (by decide) (by decide) rfl dX6_direction_14 ?_
    refine x_icmp_ge (tgt := 32) C dX6_direction_15 (by decide) (fun c_15 => ?_) (fun c_15 => ?_)
    · refine x_iload_n C dX6_direction_32 1 rfl ?_
      refine x_aload_n C dX6_direction_33 0 rfl ?_
      refine x_get (ref := "RomSearchBusModel") (v := .ref (g 1)) C inX6 0 0 rfl rfl (by decide) kw_fl_X6_7 rfl rfl dX6_direction_34 ?_
      refine x_bipush (v := 34) C dX6_direction_37 (by decide) ?_
      refine x_ialdN (K := 34) (x := (y 0 34)) C 1 rfl (by decide) (by decide) (by decide) rfl dX6_direction_39 ?_
      refine x_icmp_ne (tgt := 47) C dX6_direction_40 (by decide) (fun c_40 => ?_) (fun c_40 => ?_)
      · refine x_iconst (v := 0) C dX6_direction_47 (by decide) ?_
        exact x_iret C hr hlocks rfl () (Eq.symm (by unfold f_X6_direction_r; rw [if_pos c_2, if_pos c_15, if_neg c_40])) (gEq.rf _) dX6_direction_48
      · refine x_iconst (v := 1) C dX6_direction_43 (by decide) ?_
        refine x_goto (tgt := 48) C dX6_direction_44 (by decide) ?_
        exact x_iret C hr hlocks rfl () (Eq.symm (by unfold f_X6_direction_r; rw [if_pos c_2, if_pos c_15, if_pos c_40])) (gEq.rf _) dX6_direction_48
    · refine x_aload_n C dX6_direction_18 0 rfl ?_
      refine x_get (ref := "RomSearchBusModel") (v := .ref (g 1)) C inX6 0 0 rfl rfl (by decide) kw_fl_X6_7 rfl rfl dX6_direction_19 ?_
      refine x_bipush (v := 33) C dX6_direction_22 (by decide) ?_
      refine x_ialdN (K := 33) (x := (y 0 33)) C 1 rfl (by decide) (by decide) (by decide) rfl dX6_direction_24 ?_
      refine x_iload_n C dX6_direction_25 1 rfl ?_
      refine x_ishr C dX6_direction_26 ?_
      refine x_iconst (v := 1) C dX6_direction_27 (by decide) ?_
      refine x_iand C dX6_direction_28 ?_
      refine x_goto (tgt := 48) C dX6_direction_29 (by decide) ?_
      exact x_iret C hr hlocks rfl () (Eq.symm (by unfold f_X6_direction_r; rw [if_pos c_2, if_neg c_15])) (gEq.rf _) dX6_direction_48
  · refine x_iload_n C dX6_direction_5 2 rfl ?_
    exact x_iret C hr hlocks rfl () (Eq.symm (by unfold f_X6_direction_r; rw [if_neg c_2])) (gEq.rf _) dX6_direction_6
def f_X6_note_y0 (y : Nat → Nat → Int32) (q : Int32) (nh : Nat) : Nat → Int32 := if hasS (fun j0 => y 0 (41 + j0)) q nh = true then (y 0) else (if (y 0 40) = 6 then (upd (upd (upd (upd (upd (upd (upd (upd (y 0) 41 (y 0 42)) 42 (y 0 43)) 43 (y 0 44)) 44 (y 0 45)) 45 (y 0 46)) 40 ((y 0 40) - 1)) 46 q) 40 (((y 0 40) - 1) + 1)) else (upd (upd (y 0) (41 + nh) q) 40 ((y 0 40) + 1)))
set_option maxHeartbeats 4000000 in
set_option maxRecDepth 100000 in
theorem c_X6_note (l : Launch) (E : gE) (g : Nat → Nat) (y : Nat → Nat → Int32) (z : Int64) (q : Int32) (nh : Nat) (hm : y 0 40 = nI nh) (h6 : nh ≤ 6) : CtV l E yX6_note prog_8_method_32_code 4 none 0 0 0 0 [.ref (g 0), .int q] [((g 0), .inr (6, [.ref (g 1), .ref (g 2), .ref (g 3), .int (y 7 0), .ref (g 4), .int (y 7 1), .ref (g 5), .int (y 7 2), .int (y 7 3), .int (y 7 4), .int (y 7 5), .ref (g 6), .ref (g 7), .long z])), ((g 1), .inl (E.2.1, 47, .inl (y 0))), ((g 2), .inl (E.2.1, 47, .inl (y 1))), ((g 3), .inl (E.2.1, 235, .inl (y 2))), ((g 4), .inl (E.2.1, 8, .inl (y 3))), ((g 5), .inl (E.2.1, 120, .inl (y 4))), ((g 6), .inl (E.2.1, 60, .inl (y 5))), ((g 7), .inl (E.2.1, 180, .inl (y 6)))] (fun _ : Unit => True) (fun _ => [((g 0), .inr (6, [.ref (g 1), .ref (g 2), .ref (g 3), .int (y 7 0), .ref (g 4), .int (y 7 1), .ref (g 5), .int (y 7 2), .int (y 7 3), .int (y 7 4), .int (y 7 5), .ref (g 6), .ref (g 7), .long z])), ((g 1), .inl (E.2.1, 47, .inl (f_X6_note_y0 y q nh))), ((g 2), .inl (E.2.1, 47, .inl (y 1))), ((g 3), .inl (E.2.1, 235, .inl (y 2))), ((g 4), .inl (E.2.1, 8, .inl (y 3))), ((g 5), .inl (E.2.1, 120, .inl (y 4))), ((g 6), .inl (E.2.1, 60, .inl (y 5))), ((g 7), .inl (E.2.1, 180, .inl (y 6)))]) := by
  refine CtV.start (by decide) (Nat.le_of_ble_eq_true rfl) ?_
  intro p_ e_ s_ m_ below_ meth_ c_ A_ C hr hlocks hnm
  refine Wd.cast (lv1 := [(0, .ref (g 0)), (1, .int q)]) rfl rfl rfl ?_
  refine x_iconst (v := 0) C dX6_note_0 (by decide) ?_
  refine x_istore_n (lv1 := [(2, .int 0), (0, .ref (g 0)), (1, .int q)]) C dX6_note_1 (by decide) rfl ?_
  refine x_iconst (v := 0) C dX6_note_2 (by decide) ?_
  refine x_istore_n (lv1 := [(3, .int 0), (2, .int 0), (0, .ref (g 0)), (1, .int q)]) C dX6_note_3 (by decide) rfl ?_
  refine Wd.locs (lv1 := [(0, .ref (g 0)), (1, .int q), (2, .int 0), (3, .int 0)]) [2, 3, 1, 0] rfl ?_
  refine Wd.cast (w1 := [((g 0), .inr (6, [.ref (g 1), .ref (g 2), .ref (g 3), .int (y 7 0), .ref (g 4), .int (y 7 1), .ref (g 5), .int (y 7 2), .int (y 7 3), .int (y 7 4), .int (y 7 5), .ref (g 6), .ref (g 7), .long z])), ((g 1), .inl (E.2.1, 47, .inl (y 0))), ((g 2), .inl (E.2.1, 47, .inl (y 1))), ((g 3), .inl (E.2.1, 235, .inl (y 2))), ((g 4), .inl (E.2.1, 8, .inl (y 3))), ((g 5), .inl (E.2.1, 120, .inl (y 4))), ((g 6), .inl (E.2.1, 60, .inl (y 5))), ((g 7), .inl (E.2.1, 180, .inl (y 6)))]) (lv1 := [(0, .ref (g 0)), (1, .int q), (2, .int (if hasS (fun j0 => y 0 (41 + j0)) q 0 = true then 1 else 0)), (3, .int (nI 0))]) rfl rfl rfl ?_
  refine Wd.up (W1 := fun k => [((g 0), .inr (6, [.ref (g 1), .ref (g 2), .ref (g 3), .int (y 7 0), .ref (g 4), .int (y 7 1), .ref (g 5), .int (y 7 2), .int (y 7 3), .int (y 7 4), .int (y 7 5), .ref (g 6), .ref (g 7), .long z])), ((g 1), .inl (E.2.1, 47, .inl (y 0))), ((g 2), .inl (E.2.1, 47, .inl (y 1))), ((g 3), .inl (E.2.1, 235, .inl (y 2))), ((g 4), .inl (E.2.1, 8, .inl (y 3))), ((g 5), .inl (E.2.1, 120, .inl (y 4))), ((g 6), .inl (E.2.1, 60, .inl (y 5))), ((g 7), .inl (E.2.1, 180, .inl (y 6)))]) (LV := fun k => [(0, .ref (g 0)), (1, .int q), (2, .int (if hasS (fun j0 => y 0 (41 + j0)) q k = true then 1 else 0)), (3, .int (nI k))]) (fun k => True) 0 nh (by omega) (trivial) (fun hI => ?_) (fun k hk0 hk hI ih => ?_)
  · refine Wd.cast (w1 := [((g 0), .inr (6, [.ref (g 1), .ref (g 2), .ref (g 3), .int (y 7 0), .ref (g 4), .int (y 7 1), .ref (g 5), .int (y 7 2), .int (y 7 3), .int (y 7 4), .int (y 7 5), .ref (g 6), .ref (g 7), .long z])), ((g 1), .inl (E.2.1, 47, .inl (y 0))), ((g 2), .inl (E.2.1, 47, .inl (y 1))), ((g 3), .inl (E.2.1, 235, .inl (y 2))), ((g 4), .inl (E.2.1, 8, .inl (y 3))), ((g 5), .inl (E.2.1, 120, .inl (y 4))), ((g 6), .inl (E.2.1, 60, .inl (y 5))), ((g 7), .inl (E.2.1, 180, .inl (y 6)))]) (lv1 := [(0, .ref (g 0)), (1, .int q), (2, .int (if hasS (fun j0 => y 0 (41 + j0)) q nh = true then 1 else 0)), (3, .int (nI nh))]) rfl rfl rfl ?_
    refine x_iload_n C dX6_note_4 3 rfl ?_
    refine x_aload_n C dX6_note_5 0 rfl ?_
    refine x_get (ref := "RomSearchBusModel") (v := .ref (g 1)) C inX6 0 0 rfl rfl (by decide) kw_fl_X6_7 rfl rfl dX6_note_6 ?_
    refine x_bipush (v := 40) C dX6_note_9 (by decide) ?_
    refine x_ialdN (K := 40) (x := (y 0 40)) C 1 rfl (by decide) (by decide) (by decide) rfl dX6_note_11 ?_
    refine x_icmp_ge (tgt := 44) C dX6_note_12 (by decide) (fun c_12 => ?_) (fun c_12 => absurd (by rw [hm]; exact Int32.le_refl _) c_12)
    refine x_iload_n C dX6_note_44 2 rfl ?_
    refine x_ifB_ne (tgt := 104) C dX6_note_45 (by decide) (fun c_45 => ?_) (fun c_45 => ?_)
    · refine x_iload_n C dX6_note_104 2 rfl ?_
      refine x_ifB_ne (tgt := 135) C dX6_note_105 (by decide) (fun c_105 => ?_) (fun c_105 => absurd c_45 c_105)
      have q_1 : f_X6_note_y0 y q nh = (y 0) := (by unfold f_X6_note_y0; rw [if_pos c_45])
      exact x_vret C hr hlocks () trivial (by rw [q_1]; exact gEq.rf _) dX6_note_135
    · refine x_aload_n C dX6_note_48 0 rfl ?_
      refine x_get (ref := "RomSearchBusModel") (v := .ref (g 1)) C inX6 0 0 rfl rfl (by decide) kw_fl_X6_7 rfl rfl dX6_note_49 ?_
      refine x_bipush (v := 40) C dX6_note_52 (by decide) ?_
      refine x_ialdN (K := 40) (x := (y 0 40)) C 1 rfl (by decide) (by decide) (by decide) rfl dX6_note_54 ?_
      refine x_bipush (v := 6) C dX6_note_55 (by decide) ?_
      refine x_icmp_ne (tgt := 104) C dX6_note_57 (by decide) (fun c_57 => ?_) (fun c_57 => ?_)
      · refine x_iload_n C dX6_note_104 2 rfl ?_
        refine x_ifB_ne (tgt := 135) C dX6_note_105 (by decide) (fun c_105 => absurd c_105 c_45) (fun c_105 => ?_)
        refine x_aload_n C dX6_note_108 0 rfl ?_
        refine x_get (ref := "RomSearchBusModel") (v := .ref (g 1)) C inX6 0 0 rfl rfl (by decide) kw_fl_X6_7 rfl rfl dX6_note_109 ?_
        refine x_bipush (v := 41) C dX6_note_112 (by decide) ?_
        refine x_aload_n C dX6_note_114 0 rfl ?_
        refine x_get (ref := "RomSearchBusModel") (v := .ref (g 1)) C inX6 0 0 rfl rfl (by decide) kw_fl_X6_7 rfl rfl dX6_note_115 ?_
        refine x_bipush (v := 40) C dX6_note_118 (by decide) ?_
        refine x_ialdN (K := 40) (x := (y 0 40)) C 1 rfl (by decide) (by decide) (by decide) rfl dX6_note_120 ?_
        refine x_iadd C dX6_note_121 ?_
        refine x_iload_n C dX6_note_122 1 rfl ?_
        refine x_iastN (K := (41 + nh)) C 1 rfl (by rw [hm]; exact ix41 nh) (by have z0 : ¬ nh = 6 := fun z1 => c_57 (by rw [hm, z1]; rfl); omega) (by decide) [((g 0), .inr (6, [.ref (g 1), .ref (g 2), .ref (g 3), .int (y 7 0), .ref (g 4), .int (y 7 1), .ref (g 5), .int (y 7 2), .int (y 7 3), .int (y 7 4), .int (y 7 5), .ref (g 6), .ref (g 7), .long z])), ((g 1), .inl (E.2.1, 47, .inl (upd (y 0) (41 + nh) q))), ((g 2), .inl (E.2.1, 47, .inl (y 1))), ((g 3), .inl (E.2.1, 235, .inl (y 2))), ((g 4), .inl (E.2.1, 8, .inl (y 3))), ((g 5), .inl (E.2.1, 120, .inl (y 4))), ((g 6), .inl (E.2.1, 60, .inl (y 5))), ((g 7), .inl (E.2.1, 180, .inl (y 6)))] rfl dX6_note_123 ?_
        refine x_aload_n C dX6_note_124 0 rfl ?_
        refine x_get (ref := "RomSearchBusModel") (v := .ref (g 1)) C inX6 0 0 rfl rfl (by decide) kw_fl_X6_7 rfl rfl dX6_note_125 ?_
        refine x_bipush (v := 40) C dX6_note_128 (by decide) ?_
        refine x_dup2 C dX6_note_130 rfl rfl ?_
        refine x_ialdN (K := 40) (x := (y 0 40)) C 1 rfl (by decide) (by decide) (by decide) (by simp only [upd]; rw [if_neg (by have z0 : ¬ nh = 6 := fun z1 => c_57 (by rw [hm, z1]; rfl); omega)]) dX6_note_131 ?_
        refine x_iconst (v := 1) C dX6_note_132 (by decide) ?_
        refine x_iadd C dX6_note_133 ?_
        refine x_iastN (K := 40) C 1 rfl (by decide) (by decide) (by decide) [((g 0), .inr (6, [.ref (g 1), .ref (g 2), .ref (g 3), .int (y 7 0), .ref (g 4), .int (y 7 1), .ref (g 5), .int (y 7 2), .int (y 7 3), .int (y 7 4), .int (y 7 5), .ref (g 6), .ref (g 7), .long z])), ((g 1), .inl (E.2.1, 47, .inl (upd (upd (y 0) (41 + nh) q) 40 ((y 0 40) + 1)))), ((g 2), .inl (E.2.1, 47, .inl (y 1))), ((g 3), .inl (E.2.1, 235, .inl (y 2))), ((g 4), .inl (E.2.1, 8, .inl (y 3))), ((g 5), .inl (E.2.1, 120, .inl (y 4))), ((g 6), .inl (E.2.1, 60, .inl (y 5))), ((g 7), .inl (E.2.1, 180, .inl (y 6)))] rfl dX6_note_134 ?_
        have q_2 : f_X6_note_y0 y q nh = (upd (upd (y 0) (41 + nh) q) 40 ((y 0 40) + 1)) := (by unfold f_X6_note_y0; rw [if_neg c_45, if_neg c_57])
        exact x_vret C hr hlocks () trivial (by rw [q_2]; exact gEq.rf _) dX6_note_135
      · refine x_iconst (v := 0) C dX6_note_60 (by decide) ?_
        refine x_istore_n (lv1 := [(3, .int 0), (0, .ref (g 0)), (1, .int q), (2, .int (if hasS (fun j0 => y 0 (41 + j0)) q nh = true then 1 else 0))]) C dX6_note_61 (by decide) rfl ?_
        refine x_iload_n C dX6_note_62 0 rfl ?_
        refine x_iconst (v := 5) C dX6_note_63 (by decide) ?_
        refine x_icmp_ge (tgt := 93) C dX6_note_64 (by decide) (fun c_64 => absurd c_64 (by decide)) (fun c_64 => ?_)
        refine x_aload_n C dX6_note_67 1 rfl ?_
        refine x_get (ref := "RomSearchBusModel") (v := .ref (g 1)) C inX6 0 0 rfl rfl (by decide) kw_fl_X6_7 rfl rfl dX6_note_68 ?_
        refine x_bipush (v := 41) C dX6_note_71 (by decide) ?_
        refine x_iload_n C dX6_note_73 0 rfl ?_
        refine x_iadd C dX6_note_74 ?_
        refine Wd.cast (w1 := [((g 0), .inr (6, [.ref (g 1), .ref (g 2), .ref (g 3), .int (y 7 0), .ref (g 4), .int (y 7 1), .ref (g 5), .int (y 7 2), .int (y 7 3), .int (y 7 4), .int (y 7 5), .ref (g 6), .ref (g 7), .long z])), ((g 1), .inl (E.2.1, 47, .inl (y 0))), ((g 2), .inl (E.2.1, 47, .inl (y 1))), ((g 3), .inl (E.2.1, 235, .inl (y 2))), ((g 4), .inl (E.2.1, 8, .inl (y 3))), ((g 5), .inl (E.2.1, 120, .inl (y 4))), ((g 6), .inl (E.2.1, 60, .inl (y 5))), ((g 7), .inl (E.2.1, 180, .inl (y 6)))]) (lv1 := [(3, .int 0), (0, .ref (g 0)), (1, .int q), (2, .int (if hasS (fun j0 => y 0 (41 + j0)) q nh = true then 1 else 0))]) (st1 := [.int 41, .ref (g 1)]) rfl rfl rfl ?_
        refine x_aload_n C dX6_note_75 1 rfl ?_
        refine x_get (ref := "RomSearchBusModel") (v := .ref (g 1)) C inX6 0 0 rfl rfl (by decide) kw_fl_X6_7 rfl rfl dX6_note_76 ?_
        refine x_bipush (v := 41) C dX6_note_79 (by decide) ?_
        refine x_iload_n C dX6_note_81 0 rfl ?_
        refine x_iadd C dX6_note_82 ?_
        refine Wd.cast (w1 := [((g 0), .inr (6, [.ref (g 1), .ref (g 2), .ref (g 3), .int (y 7 0), .ref (g 4), .int (y 7 1), .ref (g 5), .int (y 7 2), .int (y 7 3), .int (y 7 4), .int (y 7 5), .ref (g 6), .ref (g 7), .long z])), ((g 1), .inl (E.2.1, 47, .inl (y 0))), ((g 2), .inl (E.2.1, 47, .inl (y 1))), ((g 3), .inl (E.2.1, 235, .inl (y 2))), ((g 4), .inl (E.2.1, 8, .inl (y 3))), ((g 5), .inl (E.2.1, 120, .inl (y 4))), ((g 6), .inl (E.2.1, 60, .inl (y 5))), ((g 7), .inl (E.2.1, 180, .inl (y 6)))]) (lv1 := [(3, .int 0), (0, .ref (g 0)), (1, .int q), (2, .int (if hasS (fun j0 => y 0 (41 + j0)) q nh = true then 1 else 0))]) (st1 := [.int 41, .ref (g 1), .int 41, .ref (g 1)]) rfl rfl rfl ?_
        refine x_iconst (v := 1) C dX6_note_83 (by decide) ?_
        refine x_iadd C dX6_note_84 ?_
        refine Wd.cast (w1 := [((g 0), .inr (6, [.ref (g 1), .ref (g 2), .ref (g 3), .int (y 7 0), .ref (g 4), .int (y 7 1), .ref (g 5), .int (y 7 2), .int (y 7 3), .int (y 7 4), .int (y 7 5), .ref (g 6), .ref (g 7), .long z])), ((g 1), .inl (E.2.1, 47, .inl (y 0))), ((g 2), .inl (E.2.1, 47, .inl (y 1))), ((g 3), .inl (E.2.1, 235, .inl (y 2))), ((g 4), .inl (E.2.1, 8, .inl (y 3))), ((g 5), .inl (E.2.1, 120, .inl (y 4))), ((g 6), .inl (E.2.1, 60, .inl (y 5))), ((g 7), .inl (E.2.1, 180, .inl (y 6)))]) (lv1 := [(3, .int 0), (0, .ref (g 0)), (1, .int q), (2, .int (if hasS (fun j0 => y 0 (41 + j0)) q nh = true then 1 else 0))]) (st1 := [.int 42, .ref (g 1), .int 41, .ref (g 1)]) rfl rfl rfl ?_
        refine x_ialdN (K := 42) (x := (y 0 42)) C 1 rfl (by decide) (by decide) (by decide) rfl dX6_note_85 ?_
        refine x_iastN (K := 41) C 1 rfl (by decide) (by decide) (by decide) [((g 0), .inr (6, [.ref (g 1), .ref (g 2), .ref (g 3), .int (y 7 0), .ref (g 4), .int (y 7 1), .ref (g 5), .int (y 7 2), .int (y 7 3), .int (y 7 4), .int (y 7 5), .ref (g 6), .ref (g 7), .long z])), ((g 1), .inl (E.2.1, 47, .inl (upd (y 0) 41 (y 0 42)))), ((g 2), .inl (E.2.1, 47, .inl (y 1))), ((g 3), .inl (E.2.1, 235, .inl (y 2))), ((g 4), .inl (E.2.1, 8, .inl (y 3))), ((g 5), .inl (E.2.1, 120, .inl (y 4))), ((g 6), .inl (E.2.1, 60, .inl (y 5))), ((g 7), .inl (E.2.1, 180, .inl (y 6)))] rfl dX6_note_86 ?_
        refine x_iinc (j := 0) (v := 1) (lv1 := [(3, .int 1), (0, .ref (g 0)), (1, .int q), (2, .int (if hasS (fun j0 => y 0 (41 + j0)) q nh = true then 1 else 0))]) C dX6_note_87 rfl (by decide) (by decide) rfl ?_
        refine x_goto (tgt := 62) C dX6_note_90 (by decide) ?_
        refine x_iload_n C dX6_note_62 0 rfl ?_
        refine x_iconst (v := 5) C dX6_note_63 (by decide) ?_
        refine x_icmp_ge (tgt := 93) C dX6_note_64 (by decide) (fun c_64_2 => absurd c_64_2 (by decide)) (fun c_64_2 => ?_)
        refine x_aload_n C dX6_note_67 1 rfl ?_
        refine x_get (ref := "RomSearchBusModel") (v := .ref (g 1)) C inX6 0 0 rfl rfl (by decide) kw_fl_X6_7 rfl rfl dX6_note_68 ?_
        refine x_bipush (v := 41) C dX6_note_71 (by decide) ?_
        refine x_iload_n C dX6_note_73 0 rfl ?_
        refine x_iadd C dX6_note_74 ?_
        refine Wd.cast (w1 := [((g 0), .inr (6, [.ref (g 1), .ref (g 2), .ref (g 3), .int (y 7 0), .ref (g 4), .int (y 7 1), .ref (g 5), .int (y 7 2), .int (y 7 3), .int (y 7 4), .int (y 7 5), .ref (g 6), .ref (g 7), .long z])), ((g 1), .inl (E.2.1, 47, .inl (upd (y 0) 41 (y 0 42)))), ((g 2), .inl (E.2.1, 47, .inl (y 1))), ((g 3), .inl (E.2.1, 235, .inl (y 2))), ((g 4), .inl (E.2.1, 8, .inl (y 3))), ((g 5), .inl (E.2.1, 120, .inl (y 4))), ((g 6), .inl (E.2.1, 60, .inl (y 5))), ((g 7), .inl (E.2.1, 180, .inl (y 6)))]) (lv1 := [(3, .int 1), (0, .ref (g 0)), (1, .int q), (2, .int (if hasS (fun j0 => y 0 (41 + j0)) q nh = true then 1 else 0))]) (st1 := [.int 42, .ref (g 1)]) rfl rfl rfl ?_
        refine x_aload_n C dX6_note_75 1 rfl ?_
        refine x_get (ref := "RomSearchBusModel") (v := .ref (g 1)) C inX6 0 0 rfl rfl (by decide) kw_fl_X6_7 rfl rfl dX6_note_76 ?_
        refine x_bipush (v := 41) C dX6_note_79 (by decide) ?_
        refine x_iload_n C dX6_note_81 0 rfl ?_
        refine x_iadd C dX6_note_82 ?_
        refine Wd.cast (w1 := [((g 0), .inr (6, [.ref (g 1), .ref (g 2), .ref (g 3), .int (y 7 0), .ref (g 4), .int (y 7 1), .ref (g 5), .int (y 7 2), .int (y 7 3), .int (y 7 4), .int (y 7 5), .ref (g 6), .ref (g 7), .long z])), ((g 1), .inl (E.2.1, 47, .inl (upd (y 0) 41 (y 0 42)))), ((g 2), .inl (E.2.1, 47, .inl (y 1))), ((g 3), .inl (E.2.1, 235, .inl (y 2))), ((g 4), .inl (E.2.1, 8, .inl (y 3))), ((g 5), .inl (E.2.1, 120, .inl (y 4))), ((g 6), .inl (E.2.1, 60, .inl (y 5))), ((g 7), .inl (E.2.1, 180, .inl (y 6)))]) (lv1 := [(3, .int 1), (0, .ref (g 0)), (1, .int q), (2, .int (if hasS (fun j0 => y 0 (41 + j0)) q nh = true then 1 else 0))]) (st1 := [.int 42, .ref (g 1), .int 42, .ref (g 1)]) rfl rfl rfl ?_
        refine x_iconst (v := 1) C dX6_note_83 (by decide) ?_
        refine x_iadd C dX6_note_84 ?_
        refine Wd.cast (w1 := [((g 0), .inr (6, [.ref (g 1), .ref (g 2), .ref (g 3), .int (y 7 0), .ref (g 4), .int (y 7 1), .ref (g 5), .int (y 7 2), .int (y 7 3), .int (y 7 4), .int (y 7 5), .ref (g 6), .ref (g 7), .long z])), ((g 1), .inl (E.2.1, 47, .inl (upd (y 0) 41 (y 0 42)))), ((g 2), .inl (E.2.1, 47, .inl (y 1))), ((g 3), .inl (E.2.1, 235, .inl (y 2))), ((g 4), .inl (E.2.1, 8, .inl (y 3))), ((g 5), .inl (E.2.1, 120, .inl (y 4))), ((g 6), .inl (E.2.1, 60, .inl (y 5))), ((g 7), .inl (E.2.1, 180, .inl (y 6)))]) (lv1 := [(3, .int 1), (0, .ref (g 0)), (1, .int q), (2, .int (if hasS (fun j0 => y 0 (41 + j0)) q nh = true then 1 else 0))]) (st1 := [.int 43, .ref (g 1), .int 42, .ref (g 1)]) rfl rfl rfl ?_
        refine x_ialdN (K := 43) (x := (y 0 43)) C 1 rfl (by decide) (by decide) (by decide) rfl dX6_note_85 ?_
        refine x_iastN (K := 42) C 1 rfl (by decide) (by decide) (by decide) [((g 0), .inr (6, [.ref (g 1), .ref (g 2), .ref (g 3), .int (y 7 0), .ref (g 4), .int (y 7 1), .ref (g 5), .int (y 7 2), .int (y 7 3), .int (y 7 4), .int (y 7 5), .ref (g 6), .ref (g 7), .long z])), ((g 1), .inl (E.2.1, 47, .inl (upd (upd (y 0) 41 (y 0 42)) 42 (y 0 43)))), ((g 2), .inl (E.2.1, 47, .inl (y 1))), ((g 3), .inl (E.2.1, 235, .inl (y 2))), ((g 4), .inl (E.2.1, 8, .inl (y 3))), ((g 5), .inl (E.2.1, 120, .inl (y 4))), ((g 6), .inl (E.2.1, 60, .inl (y 5))), ((g 7), .inl (E.2.1, 180, .inl (y 6)))] rfl dX6_note_86 ?_
        refine x_iinc (j := 0) (v := 2) (lv1 := [(3, .int 2), (0, .ref (g 0)), (1, .int q), (2, .int (if hasS (fun j0 => y 0 (41 + j0)) q nh = true then 1 else 0))]) C dX6_note_87 rfl (by decide) (by decide) rfl ?_
        refine x_goto (tgt := 62) C dX6_note_90 (by decide) ?_
        refine x_iload_n C dX6_note_62 0 rfl ?_
        refine x_iconst (v := 5) C dX6_note_63 (by decide) ?_
        refine x_icmp_ge (tgt := 93) C dX6_note_64 (by decide) (fun c_64_3 => absurd c_64_3 (by decide)) (fun c_64_3 => ?_)
        refine x_aload_n C dX6_note_67 1 rfl ?_
        refine x_get (ref := "RomSearchBusModel") (v := .ref (g 1)) C inX6 0 0 rfl rfl (by decide) kw_fl_X6_7 rfl rfl dX6_note_68 ?_
        refine x_bipush (v := 41) C dX6_note_71 (by decide) ?_
        refine x_iload_n C dX6_note_73 0 rfl ?_
        refine x_iadd C dX6_note_74 ?_
        refine Wd.cast (w1 := [((g 0), .inr (6, [.ref (g 1), .ref (g 2), .ref (g 3), .int (y 7 0), .ref (g 4), .int (y 7 1), .ref (g 5), .int (y 7 2), .int (y 7 3), .int (y 7 4), .int (y 7 5), .ref (g 6), .ref (g 7), .long z])), ((g 1), .inl (E.2.1, 47, .inl (upd (upd (y 0) 41 (y 0 42)) 42 (y 0 43)))), ((g 2), .inl (E.2.1, 47, .inl (y 1))), ((g 3), .inl (E.2.1, 235, .inl (y 2))), ((g 4), .inl (E.2.1, 8, .inl (y 3))), ((g 5), .inl (E.2.1, 120, .inl (y 4))), ((g 6), .inl (E.2.1, 60, .inl (y 5))), ((g 7), .inl (E.2.1, 180, .inl (y 6)))]) (lv1 := [(3, .int 2), (0, .ref (g 0)), (1, .int q), (2, .int (if hasS (fun j0 => y 0 (41 + j0)) q nh = true then 1 else 0))]) (st1 := [.int 43, .ref (g 1)]) rfl rfl rfl ?_
        refine x_aload_n C dX6_note_75 1 rfl ?_
        refine x_get (ref := "RomSearchBusModel") (v := .ref (g 1)) C inX6 0 0 rfl rfl (by decide) kw_fl_X6_7 rfl rfl dX6_note_76 ?_
        refine x_bipush (v := 41) C dX6_note_79 (by decide) ?_
        refine x_iload_n C dX6_note_81 0 rfl ?_
        refine x_iadd C dX6_note_82 ?_
        refine Wd.cast (w1 := [((g 0), .inr (6, [.ref (g 1), .ref (g 2), .ref (g 3), .int (y 7 0), .ref (g 4), .int (y 7 1), .ref (g 5), .int (y 7 2), .int (y 7 3), .int (y 7 4), .int (y 7 5), .ref (g 6), .ref (g 7), .long z])), ((g 1), .inl (E.2.1, 47, .inl (upd (upd (y 0) 41 (y 0 42)) 42 (y 0 43)))), ((g 2), .inl (E.2.1, 47, .inl (y 1))), ((g 3), .inl (E.2.1, 235, .inl (y 2))), ((g 4), .inl (E.2.1, 8, .inl (y 3))), ((g 5), .inl (E.2.1, 120, .inl (y 4))), ((g 6), .inl (E.2.1, 60, .inl (y 5))), ((g 7), .inl (E.2.1, 180, .inl (y 6)))]) (lv1 := [(3, .int 2), (0, .ref (g 0)), (1, .int q), (2, .int (if hasS (fun j0 => y 0 (41 + j0)) q nh = true then 1 else 0))]) (st1 := [.int 43, .ref (g 1), .int 43, .ref (g 1)]) rfl rfl rfl ?_
        refine x_iconst (v := 1) C dX6_note_83 (by decide) ?_
        refine x_iadd C dX6_note_84 ?_
        refine Wd.cast (w1 := [((g 0), .inr (6, [.ref (g 1), .ref (g 2), .ref (g 3), .int (y 7 0), .ref (g 4), .int (y 7 1), .ref (g 5), .int (y 7 2), .int (y 7 3), .int (y 7 4), .int (y 7 5), .ref (g 6), .ref (g 7), .long z])), ((g 1), .inl (E.2.1, 47, .inl (upd (upd (y 0) 41 (y 0 42)) 42 (y 0 43)))), ((g 2), .inl (E.2.1, 47, .inl (y 1))), ((g 3), .inl (E.2.1, 235, .inl (y 2))), ((g 4), .inl (E.2.1, 8, .inl (y 3))), ((g 5), .inl (E.2.1, 120, .inl (y 4))), ((g 6), .inl (E.2.1, 60, .inl (y 5))), ((g 7), .inl (E.2.1, 180, .inl (y 6)))]) (lv1 := [(3, .int 2), (0, .ref (g 0)), (1, .int q), (2, .int (if hasS (fun j0 => y 0 (41 + j0)) q nh = true then 1 else 0))]) (st1 := [.int 44, .ref (g 1), .int 43, .ref (g 1)]) rfl rfl rfl ?_
        refine x_ialdN (K := 44) (x := (y 0 44)) C 1 rfl (by decide) (by decide) (by decide) rfl dX6_note_85 ?_
        refine x_iastN (K := 43) C 1 rfl (by decide) (by decide) (by decide) [((g 0), .inr (6, [.ref (g 1), .ref (g 2), .ref (g 3), .int (y 7 0), .ref (g 4), .int (y 7 1), .ref (g 5), .int (y 7 2), .int (y 7 3), .int (y 7 4), .int (y 7 5), .ref (g 6), .ref (g 7), .long z])), ((g 1), .inl (E.2.1, 47, .inl (upd (upd (upd (y 0) 41 (y 0 42)) 42 (y 0 43)) 43 (y 0 44)))), ((g 2), .inl (E.2.1, 47, .inl (y 1))), ((g 3), .inl (E.2.1, 235, .inl (y 2))), ((g 4), .inl (E.2.1, 8, .inl (y 3))), ((g 5), .inl (E.2.1, 120, .inl (y 4))), ((g 6), .inl (E.2.1, 60, .inl (y 5))), ((g 7), .inl (E.2.1, 180, .inl (y 6)))] rfl dX6_note_86 ?_
        refine x_iinc (j := 0) (v := 3) (lv1 := [(3, .int 3), (0, .ref (g 0)), (1, .int q), (2, .int (if hasS (fun j0 => y 0 (41 + j0)) q nh = true then 1 else 0))]) C dX6_note_87 rfl (by decide) (by decide) rfl ?_
        refine x_goto (tgt := 62) C dX6_note_90 (by decide) ?_
        refine x_iload_n C dX6_note_62 0 rfl ?_
        refine x_iconst (v := 5) C dX6_note_63 (by decide) ?_
        refine x_icmp_ge (tgt := 93) C dX6_note_64 (by decide) (fun c_64_4 => absurd c_64_4 (by decide)) (fun c_64_4 => ?_)
        refine x_aload_n C dX6_note_67 1 rfl ?_
        refine x_get (ref := "RomSearchBusModel") (v := .ref (g 1)) C inX6 0 0 rfl rfl (by decide) kw_fl_X6_7 rfl rfl dX6_note_68 ?_
        refine x_bipush (v := 41) C dX6_note_71 (by decide) ?_
        refine x_iload_n C dX6_note_73 0 rfl ?_
        refine x_iadd C dX6_note_74 ?_
        refine Wd.cast (w1 := [((g 0), .inr (6, [.ref (g 1), .ref (g 2), .ref (g 3), .int (y 7 0), .ref (g 4), .int (y 7 1), .ref (g 5), .int (y 7 2), .int (y 7 3), .int (y 7 4), .int (y 7 5), .ref (g 6), .ref (g 7), .long z])), ((g 1), .inl (E.2.1, 47, .inl (upd (upd (upd (y 0) 41 (y 0 42)) 42 (y 0 43)) 43 (y 0 44)))), ((g 2), .inl (E.2.1, 47, .inl (y 1))), ((g 3), .inl (E.2.1, 235, .inl (y 2))), ((g 4), .inl (E.2.1, 8, .inl (y 3))), ((g 5), .inl (E.2.1, 120, .inl (y 4))), ((g 6), .inl (E.2.1, 60, .inl (y 5))), ((g 7), .inl (E.2.1, 180, .inl (y 6)))]) (lv1 := [(3, .int 3), (0, .ref (g 0)), (1, .int q), (2, .int (if hasS (fun j0 => y 0 (41 + j0)) q nh = true then 1 else 0))]) (st1 := [.int 44, .ref (g 1)]) rfl rfl rfl ?_
        refine x_aload_n C dX6_note_75 1 rfl ?_
        refine x_get (ref := "RomSearchBusModel") (v := .ref (g 1)) C inX6 0 0 rfl rfl (by decide) kw_fl_X6_7 rfl rfl dX6_note_76 ?_
        refine x_bipush (v := 41) C dX6_note_79 (by decide) ?_
        refine x_iload_n C dX6_note_81 0 rfl ?_
        refine x_iadd C dX6_note_82 ?_
        refine Wd.cast (w1 := [((g 0), .inr (6, [.ref (g 1), .ref (g 2), .ref (g 3), .int (y 7 0), .ref (g 4), .int (y 7 1), .ref (g 5), .int (y 7 2), .int (y 7 3), .int (y 7 4), .int (y 7 5), .ref (g 6), .ref (g 7), .long z])), ((g 1), .inl (E.2.1, 47, .inl (upd (upd (upd (y 0) 41 (y 0 42)) 42 (y 0 43)) 43 (y 0 44)))), ((g 2), .inl (E.2.1, 47, .inl (y 1))), ((g 3), .inl (E.2.1, 235, .inl (y 2))), ((g 4), .inl (E.2.1, 8, .inl (y 3))), ((g 5), .inl (E.2.1, 120, .inl (y 4))), ((g 6), .inl (E.2.1, 60, .inl (y 5))), ((g 7), .inl (E.2.1, 180, .inl (y 6)))]) (lv1 := [(3, .int 3), (0, .ref (g 0)), (1, .int q), (2, .int (if hasS (fun j0 => y 0 (41 + j0)) q nh = true then 1 else 0))]) (st1 := [.int 44, .ref (g 1), .int 44, .ref (g 1)]) rfl rfl rfl ?_
        refine x_iconst (v := 1) C dX6_note_83 (by decide) ?_
        refine x_iadd C dX6_note_84 ?_
        refine Wd.cast (w1 := [((g 0), .inr (6, [.ref (g 1), .ref (g 2), .ref (g 3), .int (y 7 0), .ref (g 4), .int (y 7 1), .ref (g 5), .int (y 7 2), .int (y 7 3), .int (y 7 4), .int (y 7 5), .ref (g 6), .ref (g 7), .long z])), ((g 1), .inl (E.2.1, 47, .inl (upd (upd (upd (y 0) 41 (y 0 42)) 42 (y 0 43)) 43 (y 0 44)))), ((g 2), .inl (E.2.1, 47, .inl (y 1))), ((g 3), .inl (E.2.1, 235, .inl (y 2))), ((g 4), .inl (E.2.1, 8, .inl (y 3))), ((g 5), .inl (E.2.1, 120, .inl (y 4))), ((g 6), .inl (E.2.1, 60, .inl (y 5))), ((g 7), .inl (E.2.1, 180, .inl (y 6)))]) (lv1 := [(3, .int 3), (0, .ref (g 0)), (1, .int q), (2, .int (if hasS (fun j0 => y 0 (41 + j0)) q nh = true then 1 else 0))]) (st1 := [.int 45, .ref (g 1), .int 44, .ref (g 1)]) rfl rfl rfl ?_
        refine x_ialdN (K := 45) (x := (y 0 45)) C 1 rfl (by decide) (by decide) (by decide) rfl dX6_note_85 ?_
        refine x_iastN (K := 44) C 1 rfl (by decide) (by decide) (by decide) [((g 0), .inr (6, [.ref (g 1), .ref (g 2), .ref (g 3), .int (y 7 0), .ref (g 4), .int (y 7 1), .ref (g 5), .int (y 7 2), .int (y 7 3), .int (y 7 4), .int (y 7 5), .ref (g 6), .ref (g 7), .long z])), ((g 1), .inl (E.2.1, 47, .inl (upd (upd (upd (upd (y 0) 41 (y 0 42)) 42 (y 0 43)) 43 (y 0 44)) 44 (y 0 45)))), ((g 2), .inl (E.2.1, 47, .inl (y 1))), ((g 3), .inl (E.2.1, 235, .inl (y 2))), ((g 4), .inl (E.2.1, 8, .inl (y 3))), ((g 5), .inl (E.2.1, 120, .inl (y 4))), ((g 6), .inl (E.2.1, 60, .inl (y 5))), ((g 7), .inl (E.2.1, 180, .inl (y 6)))] rfl dX6_note_86 ?_
        refine x_iinc (j := 0) (v := 4) (lv1 := [(3, .int 4), (0, .ref (g 0)), (1, .int q), (2, .int (if hasS (fun j0 => y 0 (41 + j0)) q nh = true then 1 else 0))]) C dX6_note_87 rfl (by decide) (by decide) rfl ?_
        refine x_goto (tgt := 62) C dX6_note_90 (by decide) ?_
        refine x_iload_n C dX6_note_62 0 rfl ?_
        refine x_iconst (v := 5) C dX6_note_63 (by decide) ?_
        refine x_icmp_ge (tgt := 93) C dX6_note_64 (by decide) (fun c_64_5 => absurd c_64_5 (by decide)) (fun c_64_5 => ?_)
        refine x_aload_n C dX6_note_67 1 rfl ?_
        refine x_get (ref := "RomSearchBusModel") (v := .ref (g 1)) C inX6 0 0 rfl rfl (by decide) kw_fl_X6_7 rfl rfl dX6_note_68 ?_
        refine x_bipush (v := 41) C dX6_note_71 (by decide) ?_
        refine x_iload_n C dX6_note_73 0 rfl ?_
        refine x_iadd C dX6_note_74 ?_
        refine Wd.cast (w1 := [((g 0), .inr (6, [.ref (g 1), .ref (g 2), .ref (g 3), .int (y 7 0), .ref (g 4), .int (y 7 1), .ref (g 5), .int (y 7 2), .int (y 7 3), .int (y 7 4), .int (y 7 5), .ref (g 6), .ref (g 7), .long z])), ((g 1), .inl (E.2.1, 47, .inl (upd (upd (upd (upd (y 0) 41 (y 0 42)) 42 (y 0 43)) 43 (y 0 44)) 44 (y 0 45)))), ((g 2), .inl (E.2.1, 47, .inl (y 1))), ((g 3), .inl (E.2.1, 235, .inl (y 2))), ((g 4), .inl (E.2.1, 8, .inl (y 3))), ((g 5), .inl (E.2.1, 120, .inl (y 4))), ((g 6), .inl (E.2.1, 60, .inl (y 5))), ((g 7), .inl (E.2.1, 180, .inl (y 6)))]) (lv1 := [(3, .int 4), (0, .ref (g 0)), (1, .int q), (2, .int (if hasS (fun j0 => y 0 (41 + j0)) q nh = true then 1 else 0))]) (st1 := [.int 45, .ref (g 1)]) rfl rfl rfl ?_
        refine x_aload_n C dX6_note_75 1 rfl ?_
        refine x_get (ref := "RomSearchBusModel") (v := .ref (g 1)) C inX6 0 0 rfl rfl (by decide) kw_fl_X6_7 rfl rfl dX6_note_76 ?_
        refine x_bipush (v := 41) C dX6_note_79 (by decide) ?_
        refine x_iload_n C dX6_note_81 0 rfl ?_
        refine x_iadd C dX6_note_82 ?_
        refine Wd.cast (w1 := [((g 0), .inr (6, [.ref (g 1), .ref (g 2), .ref (g 3), .int (y 7 0), .ref (g 4), .int (y 7 1), .ref (g 5), .int (y 7 2), .int (y 7 3), .int (y 7 4), .int (y 7 5), .ref (g 6), .ref (g 7), .long z])), ((g 1), .inl (E.2.1, 47, .inl (upd (upd (upd (upd (y 0) 41 (y 0 42)) 42 (y 0 43)) 43 (y 0 44)) 44 (y 0 45)))), ((g 2), .inl (E.2.1, 47, .inl (y 1))), ((g 3), .inl (E.2.1, 235, .inl (y 2))), ((g 4), .inl (E.2.1, 8, .inl (y 3))), ((g 5), .inl (E.2.1, 120, .inl (y 4))), ((g 6), .inl (E.2.1, 60, .inl (y 5))), ((g 7), .inl (E.2.1, 180, .inl (y 6)))]) (lv1 := [(3, .int 4), (0, .ref (g 0)), (1, .int q), (2, .int (if hasS (fun j0 => y 0 (41 + j0)) q nh = true then 1 else 0))]) (st1 := [.int 45, .ref (g 1), .int 45, .ref (g 1)]) rfl rfl rfl ?_
        refine x_iconst (v := 1) C dX6_note_83 (by decide) ?_
        refine x_iadd C dX6_note_84 ?_
        refine Wd.cast (w1 := [((g 0), .inr (6, [.ref (g 1), .ref (g 2), .ref (g 3), .int (y 7 0), .ref (g 4), .int (y 7 1), .ref (g 5), .int (y 7 2), .int (y 7 3), .int (y 7 4), .int (y 7 5), .ref (g 6), .ref (g 7), .long z])), ((g 1), .inl (E.2.1, 47, .inl (upd (upd (upd (upd (y 0) 41 (y 0 42)) 42 (y 0 43)) 43 (y 0 44)) 44 (y 0 45)))), ((g 2), .inl (E.2.1, 47, .inl (y 1))), ((g 3), .inl (E.2.1, 235, .inl (y 2))), ((g 4), .inl (E.2.1, 8, .inl (y 3))), ((g 5), .inl (E.2.1, 120, .inl (y 4))), ((g 6), .inl (E.2.1, 60, .inl (y 5))), ((g 7), .inl (E.2.1, 180, .inl (y 6)))]) (lv1 := [(3, .int 4), (0, .ref (g 0)), (1, .int q), (2, .int (if hasS (fun j0 => y 0 (41 + j0)) q nh = true then 1 else 0))]) (st1 := [.int 46, .ref (g 1), .int 45, .ref (g 1)]) rfl rfl rfl ?_
        refine x_ialdN (K := 46) (x := (y 0 46)) C 1 rfl (by decide) (by decide) (by decide) rfl dX6_note_85 ?_
        refine x_iastN (K := 45) C 1 rfl (by decide) (by decide) (by decide) [((g 0), .inr (6, [.ref (g 1), .ref (g 2), .ref (g 3), .int (y 7 0), .ref (g 4), .int (y 7 1), .ref (g 5), .int (y 7 2), .int (y 7 3), .int (y 7 4), .int (y 7 5), .ref (g 6), .ref (g 7), .long z])), ((g 1), .inl (E.2.1, 47, .inl (upd (upd (upd (upd (upd (y 0) 41 (y 0 42)) 42 (y 0 43)) 43 (y 0 44)) 44 (y 0 45)) 45 (y 0 46)))), ((g 2), .inl (E.2.1, 47, .inl (y 1))), ((g 3), .inl (E.2.1, 235, .inl (y 2))), ((g 4), .inl (E.2.1, 8, .inl (y 3))), ((g 5), .inl (E.2.1, 120, .inl (y 4))), ((g 6), .inl (E.2.1, 60, .inl (y 5))), ((g 7), .inl (E.2.1, 180, .inl (y 6)))] rfl dX6_note_86 ?_
        refine x_iinc (j := 0) (v := 5) (lv1 := [(3, .int 5), (0, .ref (g 0)), (1, .int q), (2, .int (if hasS (fun j0 => y 0 (41 + j0)) q nh = true then 1 else 0))]) C dX6_note_87 rfl (by decide) (by decide) rfl ?_
        refine x_goto (tgt := 62) C dX6_note_90 (by decide) ?_
        refine x_iload_n C dX6_note_62 0 rfl ?_
        refine x_iconst (v := 5) C dX6_note_63 (by decide) ?_
        refine x_icmp_ge (tgt := 93) C dX6_note_64 (by decide) (fun c_64_6 => ?_) (fun c_64_6 => absurd c_64_6 (by decide))
        refine x_aload_n C dX6_note_93 1 rfl ?_
        refine x_get (ref := "RomSearchBusModel") (v := .ref (g 1)) C inX6 0 0 rfl rfl (by decide) kw_fl_X6_7 rfl rfl dX6_note_94 ?_
        refine x_bipush (v := 40) C dX6_note_97 (by decide) ?_
        refine x_dup2 C dX6_note_99 rfl rfl ?_
        refine x_ialdN (K := 40) (x := (y 0 40)) C 1 rfl (by decide) (by decide) (by decide) rfl dX6_note_100 ?_
        refine x_iconst (v := 1) C dX6_note_101 (by decide) ?_
        refine x_isub C dX6_note_102 ?_
        refine x_iastN (K := 40) C 1 rfl (by decide) (by decide) (by decide) [((g 0), .inr (6, [.ref (g 1), .ref (g 2), .ref (g 3), .int (y 7 0), .ref (g 4), .int (y 7 1), .ref (g 5), .int (y 7 2), .int (y 7 3), .int (y 7 4), .int (y 7 5), .ref (g 6), .ref (g 7), .long z])), ((g 1), .inl (E.2.1, 47, .inl (upd (upd (upd (upd (upd (upd (y 0) 41 (y 0 42)) 42 (y 0 43)) 43 (y 0 44)) 44 (y 0 45)) 45 (y 0 46)) 40 ((y 0 40) - 1)))), ((g 2), .inl (E.2.1, 47, .inl (y 1))), ((g 3), .inl (E.2.1, 235, .inl (y 2))), ((g 4), .inl (E.2.1, 8, .inl (y 3))), ((g 5), .inl (E.2.1, 120, .inl (y 4))), ((g 6), .inl (E.2.1, 60, .inl (y 5))), ((g 7), .inl (E.2.1, 180, .inl (y 6)))] rfl dX6_note_103 ?_
        refine x_iload_n C dX6_note_104 3 rfl ?_
        refine x_ifB_ne (tgt := 135) C dX6_note_105 (by decide) (fun c_105 => absurd c_105 c_45) (fun c_105 => ?_)
        refine x_aload_n C dX6_note_108 1 rfl ?_
        refine x_get (ref := "RomSearchBusModel") (v := .ref (g 1)) C inX6 0 0 rfl rfl (by decide) kw_fl_X6_7 rfl rfl dX6_note_109 ?_
        refine x_bipush (v := 41) C dX6_note_112 (by decide) ?_
        refine x_aload_n C dX6_note_114 1 rfl ?_
        refine x_get (ref := "RomSearchBusModel") (v := .ref (g 1)) C inX6 0 0 rfl rfl (by decide) kw_fl_X6_7 rfl rfl dX6_note_115 ?_
        refine x_bipush (v := 40) C dX6_note_118 (by decide) ?_
        refine x_ialdN (K := 40) (x := ((y 0 40) - 1)) C 1 rfl (by decide) (by decide) (by decide) rfl dX6_note_120 ?_
        refine x_iadd C dX6_note_121 ?_
        refine x_iload_n C dX6_note_122 2 rfl ?_
        refine x_iastN (K := 46) C 1 rfl (by rw [c_57]; rfl) (by decide) (by decide) [((g 0), .inr (6, [.ref (g 1), .ref (g 2), .ref (g 3), .int (y 7 0), .ref (g 4), .int (y 7 1), .ref (g 5), .int (y 7 2), .int (y 7 3), .int (y 7 4), .int (y 7 5), .ref (g 6), .ref (g 7), .long z])), ((g 1), .inl (E.2.1, 47, .inl (upd (upd (upd (upd (upd (upd (upd (y 0) 41 (y 0 42)) 42 (y 0 43)) 43 (y 0 44)) 44 (y 0 45)) 45 (y 0 46)) 40 ((y 0 40) - 1)) 46 q))), ((g 2), .inl (E.2.1, 47, .inl (y 1))), ((g 3), .inl (E.2.1, 235, .inl (y 2))), ((g 4), .inl (E.2.1, 8, .inl (y 3))), ((g 5), .inl (E.2.1, 120, .inl (y 4))), ((g 6), .inl (E.2.1, 60, .inl (y 5))), ((g 7), .inl (E.2.1, 180, .inl (y 6)))] rfl dX6_note_123 ?_
        refine x_aload_n C dX6_note_124 1 rfl ?_
        refine x_get (ref := "RomSearchBusModel") (v := .ref (g 1)) C inX6 0 0 rfl rfl (by decide) kw_fl_X6_7 rfl rfl dX6_note_125 ?_
        refine x_bipush (v := 40) C dX6_note_128 (by decide) ?_
        refine x_dup2 C dX6_note_130 rfl rfl ?_
        refine x_ialdN (K := 40) (x := ((y 0 40) - 1)) C 1 rfl (by decide) (by decide) (by decide) rfl dX6_note_131 ?_
        refine x_iconst (v := 1) C dX6_note_132 (by decide) ?_
        refine x_iadd C dX6_note_133 ?_
        refine x_iastN (K := 40) C 1 rfl (by decide) (by decide) (by decide) [((g 0), .inr (6, [.ref (g 1), .ref (g 2), .ref (g 3), .int (y 7 0), .ref (g 4), .int (y 7 1), .ref (g 5), .int (y 7 2), .int (y 7 3), .int (y 7 4), .int (y 7 5), .ref (g 6), .ref (g 7), .long z])), ((g 1), .inl (E.2.1, 47, .inl (upd (upd (upd (upd (upd (upd (upd (upd (y 0) 41 (y 0 42)) 42 (y 0 43)) 43 (y 0 44)) 44 (y 0 45)) 45 (y 0 46)) 40 ((y 0 40) - 1)) 46 q) 40 (((y 0 40) - 1) + 1)))), ((g 2), .inl (E.2.1, 47, .inl (y 1))), ((g 3), .inl (E.2.1, 235, .inl (y 2))), ((g 4), .inl (E.2.1, 8, .inl (y 3))), ((g 5), .inl (E.2.1, 120, .inl (y 4))), ((g 6), .inl (E.2.1, 60, .inl (y 5))), ((g 7), .inl (E.2.1, 180, .inl (y 6)))] rfl dX6_note_134 ?_
        have q_3 : f_X6_note_y0 y q nh = (upd (upd (upd (upd (upd (upd (upd (upd (y 0) 41 (y 0 42)) 42 (y 0 43)) 43 (y 0 44)) 44 (y 0 45)) 45 (y 0 46)) 40 ((y 0 40) - 1)) 46 q) 40 (((y 0 40) - 1) + 1)) := (by unfold f_X6_note_y0; rw [if_neg c_45, if_pos c_57])
        exact x_vret C hr hlocks () trivial (by rw [q_3]; exact gEq.rf _) dX6_note_135
  · refine Wd.cast (w1 := [((g 0), .inr (6, [.ref (g 1), .ref (g 2), .ref (g 3), .int (y 7 0), .ref (g 4), .int (y 7 1), .ref (g 5), .int (y 7 2), .int (y 7 3), .int (y 7 4), .int (y 7 5), .ref (g 6), .ref (g 7), .long z])), ((g 1), .inl (E.2.1, 47, .inl (y 0))), ((g 2), .inl (E.2.1, 47, .inl (y 1))), ((g 3), .inl (E.2.1, 235, .inl (y 2))), ((g 4), .inl (E.2.1, 8, .inl (y 3))), ((g 5), .inl (E.2.1, 120, .inl (y 4))), ((g 6), .inl (E.2.1, 60, .inl (y 5))), ((g 7), .inl (E.2.1, 180, .inl (y 6)))]) (lv1 := [(0, .ref (g 0)), (1, .int q), (2, .int (if hasS (fun j0 => y 0 (41 + j0)) q k = true then 1 else 0)), (3, .int (nI k))]) rfl rfl rfl ?_
    refine x_iload_n C dX6_note_4 3 rfl ?_
    refine x_aload_n C dX6_note_5 0 rfl ?_
    refine x_get (ref := "RomSearchBusModel") (v := .ref (g 1)) C inX6 0 0 rfl rfl (by decide) kw_fl_X6_7 rfl rfl dX6_note_6 ?_
    refine x_bipush (v := 40) C dX6_note_9 (by decide) ?_
    refine x_ialdN (K := 40) (x := (y 0 40)) C 1 rfl (by decide) (by decide) (by decide) rfl dX6_note_11 ?_
    refine x_icmp_ge (tgt := 44) C dX6_note_12 (by decide) (fun c_12 => absurd c_12 (by rw [hm]; exact nI_ge hk (by omega))) (fun c_12 => ?_)
    refine x_iload_n C dX6_note_15 2 rfl ?_
    refine x_ifB_ne (tgt := 32) C dX6_note_16 (by decide) (fun c_16 => ?_) (fun c_16 => ?_)
    · refine x_iconst (v := 1) C dX6_note_32 (by decide) ?_
      refine x_goto (tgt := 37) C dX6_note_33 (by decide) ?_
      refine x_istore_n (lv1 := [(2, .int 1), (0, .ref (g 0)), (1, .int q), (3, .int (nI k))]) C dX6_note_37 (by decide) rfl ?_
      refine x_iinc (j := 3) (v := (nI (k + 1))) (lv1 := [(3, .int (nI (k + 1))), (2, .int 1), (0, .ref (g 0)), (1, .int q)]) C dX6_note_38 rfl (nI_1 _) (by decide) rfl ?_
      refine x_goto (tgt := 4) C dX6_note_41 (by decide) ?_
      refine Wd.locs (lv1 := [(0, .ref (g 0)), (1, .int q), (2, .int 1), (3, .int (nI (k + 1)))]) [2, 3, 1, 0] rfl ?_
      have w_4 : (1 : Int32) = (if hasS (fun j0 => y 0 (41 + j0)) q (k + 1) = true then 1 else 0) := (by rw [if_pos]; rw [hasS_s]; by_cases z0 : (fun j0 => y 0 (41 + j0)) k = q; exact if_pos z0; exact (if_neg z0).trans c_16)
      exact Wd.cast (w1 := [((g 0), .inr (6, [.ref (g 1), .ref (g 2), .ref (g 3), .int (y 7 0), .ref (g 4), .int (y 7 1), .ref (g 5), .int (y 7 2), .int (y 7 3), .int (y 7 4), .int (y 7 5), .ref (g 6), .ref (g 7), .long z])), ((g 1), .inl (E.2.1, 47, .inl (y 0))), ((g 2), .inl (E.2.1, 47, .inl (y 1))), ((g 3), .inl (E.2.1, 235, .inl (y 2))), ((g 4), .inl (E.2.1, 8, .inl (y 3))), ((g 5), .inl (E.2.1, 120, .inl (y 4))), ((g 6), .inl (E.2.1, 60, .inl (y 5))), ((g 7), .inl (E.2.1, 180, .inl (y 6)))]) (lv1 := [(0, .ref (g 0)), (1, .int q), (2, .int (if hasS (fun j0 => y 0 (41 + j0)) q (k + 1) = true then 1 else 0)), (3, .int (nI (k + 1)))]) rfl (by first | (rw [w_4]; done) | (rw [← w_4]; done) | simp only [w_4]) rfl (ih trivial)
    · refine x_aload_n C dX6_note_19 0 rfl ?_
      refine x_get (ref := "RomSearchBusModel") (v := .ref (g 1)) C inX6 0 0 rfl rfl (by decide) kw_fl_X6_7 rfl rfl dX6_note_20 ?_
      refine x_bipush (v := 41) C dX6_note_23 (by decide) ?_
      refine x_iload_n C dX6_note_25 3 rfl ?_
      refine x_iadd C dX6_note_26 ?_
      refine x_ialdN (K := (41 + k)) (x := (y 0 (41 + k))) C 1 rfl (ix41 k) (by omega) (by decide) rfl dX6_note_27 ?_
      refine x_iload_n C dX6_note_28 1 rfl ?_
      refine x_icmp_ne (tgt := 36) C dX6_note_29 (by decide) (fun c_29 => ?_) (fun c_29 => ?_)
      · refine x_iconst (v := 0) C dX6_note_36 (by decide) ?_
        refine x_istore_n (lv1 := [(2, .int 0), (0, .ref (g 0)), (1, .int q), (3, .int (nI k))]) C dX6_note_37 (by decide) rfl ?_
        refine x_iinc (j := 3) (v := (nI (k + 1))) (lv1 := [(3, .int (nI (k + 1))), (2, .int 0), (0, .ref (g 0)), (1, .int q)]) C dX6_note_38 rfl (nI_1 _) (by decide) rfl ?_
        refine x_goto (tgt := 4) C dX6_note_41 (by decide) ?_
        refine Wd.locs (lv1 := [(0, .ref (g 0)), (1, .int q), (2, .int 0), (3, .int (nI (k + 1)))]) [2, 3, 1, 0] rfl ?_
        have w_5 : (0 : Int32) = (if hasS (fun j0 => y 0 (41 + j0)) q (k + 1) = true then 1 else 0) := (by rw [if_neg]; rw [hasS_s, if_neg c_29]; exact c_16)
        exact Wd.cast (w1 := [((g 0), .inr (6, [.ref (g 1), .ref (g 2), .ref (g 3), .int (y 7 0), .ref (g 4), .int (y 7 1), .ref (g 5), .int (y 7 2), .int (y 7 3), .int (y 7 4), .int (y 7 5), .ref (g 6), .ref (g 7), .long z])), ((g 1), .inl (E.2.1, 47, .inl (y 0))), ((g 2), .inl (E.2.1, 47, .inl (y 1))), ((g 3), .inl (E.2.1, 235, .inl (y 2))), ((g 4), .inl (E.2.1, 8, .inl (y 3))), ((g 5), .inl (E.2.1, 120, .inl (y 4))), ((g 6), .inl (E.2.1, 60, .inl (y 5))), ((g 7), .inl (E.2.1, 180, .inl (y 6)))]) (lv1 := [(0, .ref (g 0)), (1, .int q), (2, .int (if hasS (fun j0 => y 0 (41 + j0)) q (k + 1) = true then 1 else 0)), (3, .int (nI (k + 1)))]) rfl (by first | (rw [w_5]; done) | (rw [← w_5]; done) | simp only [w_5]) rfl (ih trivial)
      · refine x_iconst (v := 1) C dX6_note_32 (by decide) ?_
        refine x_goto (tgt := 37) C dX6_note_33 (by decide) ?_
        refine x_istore_n (lv1 := [(2, .int 1), (0, .ref (g 0)), (1, .int q), (3, .int (nI k))]) C dX6_note_37 (by decide) rfl ?_
        refine x_iinc (j := 3) (v := (nI (k + 1))) (lv1 := [(3, .int (nI (k + 1))), (2, .int 1), (0, .ref (g 0)), (1, .int q)]) C dX6_note_38 rfl (nI_1 _) (by decide) rfl ?_
        refine x_goto (tgt := 4) C dX6_note_41 (by decide) ?_
        refine Wd.locs (lv1 := [(0, .ref (g 0)), (1, .int q), (2, .int 1), (3, .int (nI (k + 1)))]) [2, 3, 1, 0] rfl ?_
        have w_6 : (1 : Int32) = (if hasS (fun j0 => y 0 (41 + j0)) q (k + 1) = true then 1 else 0) := (by rw [if_pos]; rw [hasS_s, if_pos c_29])
        exact Wd.cast (w1 := [((g 0), .inr (6, [.ref (g 1), .ref (g 2), .ref (g 3), .int (y 7 0), .ref (g 4), .int (y 7 1), .ref (g 5), .int (y 7 2), .int (y 7 3), .int (y 7 4), .int (y 7 5), .ref (g 6), .ref (g 7), .long z])), ((g 1), .inl (E.2.1, 47, .inl (y 0))), ((g 2), .inl (E.2.1, 47, .inl (y 1))), ((g 3), .inl (E.2.1, 235, .inl (y 2))), ((g 4), .inl (E.2.1, 8, .inl (y 3))), ((g 5), .inl (E.2.1, 120, .inl (y 4))), ((g 6), .inl (E.2.1, 60, .inl (y 5))), ((g 7), .inl (E.2.1, 180, .inl (y 6)))]) (lv1 := [(0, .ref (g 0)), (1, .int q), (2, .int (if hasS (fun j0 => y 0 (41 + j0)) q (k + 1) = true then 1 else 0)), (3, .int (nI (k + 1)))]) rfl (by first | (rw [w_6]; done) | (rw [← w_6]; done) | simp only [w_6]) rfl (ih trivial)
