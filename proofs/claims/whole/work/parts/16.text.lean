/-! the command text: f its bytes, L its length -/
def atP (f : Nat → Int32) (L p : Nat) : Int32 := if p < L then f p else -1
abbrev dgP (f : Nat → Int32) (L p : Nat) : Prop := 48 ≤ atP f L p ∧ atP f L p ≤ 57
def skp (f : Nat → Int32) : Nat → Nat → Nat
  | 0, p => p
  | j + 1, p => if f p = 32 then skp f j (p + 1) else p
def skip (f : Nat → Int32) (L p : Nat) : Nat := skp f (L - p) p
theorem skip_end {f : Nat → Int32} {L p : Nat} (h : L ≤ p) : skip f L p = p := by unfold skip; rw [show L - p = 0 by omega]; rfl
theorem skip_sp {f : Nat → Int32} {L p : Nat} (h : p < L) (h2 : f p = 32) : skip f L p = skip f L (p + 1) := by
  unfold skip; rw [show L - p = (L - (p + 1)) + 1 by omega]
  show (if f p = 32 then skp f (L - (p + 1)) (p + 1) else p) = _
  rw [if_pos h2]
theorem skip_ns {f : Nat → Int32} {L p : Nat} (h2 : ¬ f p = 32) : skip f L p = p := by
  unfold skip
  cases h : L - p with
  | zero => rfl
  | succ j => show (if f p = 32 then skp f j (p + 1) else p) = _; rw [if_neg h2]
theorem skp_le (f : Nat → Int32) : ∀ (j p : Nat), p ≤ skp f j p ∧ skp f j p ≤ p + j
  | 0, p => ⟨Nat.le_refl _, Nat.le_refl _⟩
  | j + 1, p => by
    show p ≤ (if f p = 32 then skp f j (p + 1) else p) ∧ (if f p = 32 then skp f j (p + 1) else p) ≤ p + (j + 1)
    by_cases h : f p = 32
    · rw [if_pos h]; have := skp_le f j (p + 1); omega
    · rw [if_neg h]; omega
theorem skip_ge (f : Nat → Int32) (L p : Nat) : p ≤ skip f L p := (skp_le f (L - p) p).1
theorem skip_le (f : Nat → Int32) (L p : Nat) : skip f L p ≤ p ∨ skip f L p ≤ L := by have := (skp_le f (L - p) p).2; unfold skip; omega
abbrev ngP (f : Nat → Int32) (L p : Nat) (sg : Int32) : Prop := ¬ sg = 0 ∧ atP f L p = 45
def nS (f : Nat → Int32) (L p : Nat) (sg : Int32) : Nat := if ngP f L p sg then p + 1 else p
def nD (f : Nat → Int32) (L p : Nat) : Nat := if dgP f L p then (if dgP f L (p + 1) then (if dgP f L (p + 2) then 3 else 2) else 1) else 0
def nV (f : Nat → Int32) (L p : Nat) : Int32 := if dgP f L p then (if dgP f L (p + 1) then (if dgP f L (p + 2) then ((10 * ((10 * ((0 + atP f L p) - 48) + atP f L (p + 1)) - 48) + atP f L (p + 2)) - 48) else ((10 * ((0 + atP f L p) - 48) + atP f L (p + 1)) - 48)) else ((0 + atP f L p) - 48)) else 0
def nE (f : Nat → Int32) (L p : Nat) (sg : Int32) : Nat := nS f L p sg + nD f L (nS f L p sg)
abbrev nOk (f : Nat → Int32) (L p : Nat) (sg : Int32) : Prop := 0 < nD f L (nS f L p sg) ∧ ¬ dgP f L (nE f L p sg)
def nVal (f : Nat → Int32) (L p : Nat) (sg : Int32) : Int32 := if ngP f L p sg then 0 - nV f L (nS f L p sg) else nV f L (nS f L p sg)
theorem nD_le (f : Nat → Int32) (L p : Nat) : nD f L p ≤ 3 := by unfold nD; split; split; split; all_goals omega
theorem nS_le (f : Nat → Int32) (L p : Nat) (sg : Int32) : p ≤ nS f L p sg ∧ nS f L p sg ≤ p + 1 := by unfold nS; split <;> omega
theorem nE_le (f : Nat → Int32) (L p : Nat) (sg : Int32) : p ≤ nE f L p sg ∧ nE f L p sg ≤ p + 4 := by
  have a := nS_le f L p sg; have b := nD_le f L (nS f L p sg); unfold nE; omega
theorem nI_geN {x y : Int32} {a b : Nat} (hx : x = nI a) (hy : y = nI b) (ha : a < 2 ^ 31) (hb : b < 2 ^ 31) (h : x ≤ y) : a ≤ b := by
  rw [hx, hy, nI_leI ha hb] at h; exact h
theorem nI_ltN {x y : Int32} {a b : Nat} (hx : x = nI a) (hy : y = nI b) (ha : a < 2 ^ 31) (hb : b < 2 ^ 31) (h : ¬ x ≤ y) : b < a := by
  rw [hx, hy, nI_leI ha hb] at h; omega
set_option maxHeartbeats 4000000 in
set_option maxRecDepth 100000 in
theorem c_X1_hasRoom (l : Launch) (E : gE) (t : Nat → Nat) (x : Nat → Nat → Int32)  : CtI l E yX1_hasRoom prog_3_method_2_code 1 (some .boolean) 0 0 0 0 [.ref (t 0)] [((t 0), .inr (1, [.ref (t 1), .ref (t 2), .ref (t 3), .int (x 3 0), .int (x 3 1), .int (x 3 2)]))] (fun r (_ : Unit) => r = (if (x 3 0) < 120 then 1 else 0)) (fun _ => [((t 0), .inr (1, [.ref (t 1), .ref (t 2), .ref (t 3), .int (x 3 0), .int (x 3 1), .int (x 3 2)]))]) := by
  refine CtI.start (by decide) (Nat.le_of_ble_eq_true rfl) ?_
  intro p_ e_ s_ m_ below_ meth_ c_ A_ C hr hlocks hnm
  refine Wd.cast (lv1 := [(0, .ref (t 0))]) rfl rfl rfl ?_
  refine x_aload_n C dX1_hasRoom_0 0 rfl ?_
  refine x_get (ref := "RomSearchBus$CommandText") (v := .int (x 3 0)) C inX1 0 3 rfl rfl (by decide) kw_fl_X1_22 rfl rfl dX1_hasRoom_1 ?_
  refine x_bipush (v := 120) C dX1_hasRoom_4 (by decide) ?_
  refine x_icmp_ge (tgt := 13) C dX1_hasRoom_6 (by decide) (fun c_6 => ?_) (fun c_6 => ?_)
  · refine x_iconst (v := 0) C dX1_hasRoom_13 (by decide) ?_
    exact x_iret C hr hlocks rfl () (by first | exact (if_pos (by (try simp only [Int32.lt_iff_toInt_lt, Int32.le_iff_toInt_le, ← Int32.toInt_inj] at *); omega)).symm | exact (if_neg (by (try simp only [Int32.lt_iff_toInt_lt, Int32.le_iff_toInt_le, ← Int32.toInt_inj] at *); omega)).symm) (gEq.rf _) dX1_hasRoom_14
  · refine x_iconst (v := 1) C dX1_hasRoom_9 (by decide) ?_
    refine x_goto (tgt := 14) C dX1_hasRoom_10 (by decide) ?_
    exact x_iret C hr hlocks rfl () (by first | exact (if_pos (by (try simp only [Int32.lt_iff_toInt_lt, Int32.le_iff_toInt_le, ← Int32.toInt_inj] at *); omega)).symm | exact (if_neg (by (try simp only [Int32.lt_iff_toInt_lt, Int32.le_iff_toInt_le, ← Int32.toInt_inj] at *); omega)).symm) (gEq.rf _) dX1_hasRoom_14
def f_X1_put_r (x : Nat → Nat → Int32) (q : Int32) (L : Nat) : Int32 := if (x 3 0) < 120 then ((x 3 0) + 1) else (x 3 0)
def f_X1_put_x (x : Nat → Nat → Int32) (q : Int32) (L : Nat) : Nat → Nat → Int32 := if (x 3 0) < 120 then (rs (rs x 0 L (vp_nar .byte q.toInt8.toInt32)) 3 0 ((x 3 0) + 1)) else x
set_option maxHeartbeats 4000000 in
set_option maxRecDepth 100000 in
theorem c_X1_put (l : Launch) (E : gE) (t : Nat → Nat) (x : Nat → Nat → Int32) (q : Int32) (L : Nat) (hL : x 3 0 = nI L) (hL2 : L ≤ 120) : CtI l E yX1_put prog_3_method_3_code 2 (some .int) 1 20 0 0 [.ref (t 0), .int q] [((t 0), .inr (1, [.ref (t 1), .ref (t 2), .ref (t 3), .int (x 3 0), .int (x 3 1), .int (x 3 2)])), ((t 1), .inl (E.2.2.1, 120, .inl (x 0))), ((t 2), .inl (E.2.2.1, 60, .inl (x 1))), ((t 3), .inl (E.2.1, 180, .inl (x 2)))] (fun r (_ : Unit) => r = f_X1_put_r x q L) (fun _ => [((t 0), .inr (1, [.ref (t 1), .ref (t 2), .ref (t 3), .int ((f_X1_put_x x q L) 3 0), .int ((f_X1_put_x x q L) 3 1), .int ((f_X1_put_x x q L) 3 2)])), ((t 1), .inl (E.2.2.1, 120, .inl ((f_X1_put_x x q L) 0))), ((t 2), .inl (E.2.2.1, 60, .inl ((f_X1_put_x x q L) 1))), ((t 3), .inl (E.2.1, 180, .inl ((f_X1_put_x x q L) 2)))]) := by
  refine CtI.start (by decide) (Nat.le_of_ble_eq_true rfl) ?_
  intro p_ e_ s_ m_ below_ meth_ c_ A_ C hr hlocks hnm
  refine Wd.cast (lv1 := [(0, .ref (t 0)), (1, .int q)]) rfl rfl rfl ?_
  refine x_aload_n C dX1_put_0 0 rfl ?_
  refine x_callVI (wc := [((t 0), .inr (1, [.ref (t 1), .ref (t 2), .ref (t 3), .int (x 3 0), .int (x 3 1), .int (x 3 2)]))]) (wr := [((t 1), .inl (E.2.2.1, 120, .inl (x 0))), ((t 2), .inl (E.2.2.1, 60, .inl (x 1))), ((t 3), .inl (E.2.1, 180, .inl (x 2)))]) (As := []) (rest := []) (ci := 1) (q0 := 0) C (c_X1_hasRoom l E t x ) (gWV C kw_ml_X1_32 kw_im_X1_hasRoom kw_sel_X1_hasRoom kw_ini_X1 kw_code_X1_hasRoom ga_X1_hasRoom ⟨Nat.le_of_ble_eq_true rfl, Nat.le_of_ble_eq_true rfl⟩) rfl rfl [0] [1, 2, 3] [3, 0, 1, 2] rfl rfl rfl rfl (by decide) (fun _ => [((t 0), .inr (1, [.ref (t 1), .ref (t 2), .ref (t 3), .int (x 3 0), .int (x 3 1), .int (x 3 2)])), ((t 1), .inl (E.2.2.1, 120, .inl (x 0))), ((t 2), .inl (E.2.2.1, 60, .inl (x 1))), ((t 3), .inl (E.2.1, 180, .inl (x 2)))]) rfl (fun _ => rfl) rfl (Nat.le_of_ble_eq_true rfl) ⟨Nat.le_of_ble_eq_true rfl, Nat.le_of_ble_eq_true rfl⟩ rfl dX1_put_1 (fun r_1 _ e_2 => ?_)
  subst e_2
  refine x_ifB_eq (tgt := 28) C dX1_put_4 (by decide) (fun c_4 => ?_) (fun c_4 => ?_)
  · refine x_aload_n C dX1_put_28 0 rfl ?_
    refine x_get (ref := "RomSearchBus$CommandText") (v := .int (x 3 0)) C inX1 0 3 rfl rfl (by decide) kw_fl_X1_22 rfl rfl dX1_put_29 ?_
    have q_3 : f_X1_put_x x q L = x := (by unfold f_X1_put_x; rw [if_neg c_4])
    exact x_iret C hr hlocks rfl () (Eq.symm (by unfold f_X1_put_r; rw [if_neg c_4])) (by rw [q_3]; exact gEq.rf _) dX1_put_32
  · refine x_aload_n C dX1_put_7 0 rfl ?_
    refine x_get (ref := "RomSearchBus$CommandText") (v := .ref (t 1)) C inX1 0 0 rfl rfl (by decide) kw_fl_X1_11 rfl rfl dX1_put_8 ?_
    refine x_aload_n C dX1_put_11 0 rfl ?_
    refine x_get (ref := "RomSearchBus$CommandText") (v := .int (x 3 0)) C inX1 0 3 rfl rfl (by decide) kw_fl_X1_22 rfl rfl dX1_put_12 ?_
    refine x_iload_n C dX1_put_15 1 rfl ?_
    refine x_i2b C dX1_put_16 ?_
    refine x_bastN C 1 rfl hL (nI_lt8 (m := 120) hL hL2 (by decide) (Int32.not_le.mpr c_4)) (by decide) [((t 0), .inr (1, [.ref (t 1), .ref (t 2), .ref (t 3), .int (x 3 0), .int (x 3 1), .int (x 3 2)])), ((t 1), .inl (E.2.2.1, 120, .inl (upd (x 0) L (vp_nar .byte q.toInt8.toInt32)))), ((t 2), .inl (E.2.2.1, 60, .inl (x 1))), ((t 3), .inl (E.2.1, 180, .inl (x 2)))] rfl dX1_put_17 ?_
    refine x_aload_n C dX1_put_18 0 rfl ?_
    refine x_dup C dX1_put_19 rfl ?_
    refine x_get (ref := "RomSearchBus$CommandText") (v := .int (x 3 0)) C inX1 0 3 rfl rfl (by decide) kw_fl_X1_22 rfl rfl dX1_put_20 ?_
    refine x_iconst (v := 1) C dX1_put_23 (by decide) ?_
    refine x_iadd C dX1_put_24 ?_
    refine x_put (ref := "RomSearchBus$CommandText") C inX1 tyX1 tyX1_ok nmX1 0 3 rfl rfl (by decide) kw_fl_X1_22 rfl rfl rfl rfl (Nat.le_of_ble_eq_true rfl) [((t 0), .inr (1, [.ref (t 1), .ref (t 2), .ref (t 3), .int ((x 3 0) + 1), .int (x 3 1), .int (x 3 2)])), ((t 1), .inl (E.2.2.1, 120, .inl (upd (x 0) L (vp_nar .byte q.toInt8.toInt32)))), ((t 2), .inl (E.2.2.1, 60, .inl (x 1))), ((t 3), .inl (E.2.1, 180, .inl (x 2)))] rfl dX1_put_25 ?_
    refine x_aload_n C dX1_put_28 0 rfl ?_
    refine x_get (ref := "RomSearchBus$CommandText") (v := .int ((x 3 0) + 1)) C inX1 0 3 rfl rfl (by decide) kw_fl_X1_22 rfl rfl dX1_put_29 ?_
    have q_4 : f_X1_put_x x q L = (rs (rs x 0 L (vp_nar .byte q.toInt8.toInt32)) 3 0 ((x 3 0) + 1)) := (by unfold f_X1_put_x; rw [if_pos c_4])
    exact x_iret C hr hlocks rfl () (Eq.symm (by unfold f_X1_put_r; rw [if_pos c_4])) (by rw [q_4]; exact gEq.rf _) dX1_put_32
def f_X1_empty_r (x : Nat → Nat → Int32) : Int32 := (x 3 0)
def f_X1_empty_x (x : Nat → Nat → Int32) : Nat → Nat → Int32 := (rs x 3 0 0)
set_option maxHeartbeats 4000000 in
set_option maxRecDepth 100000 in
theorem c_X1_empty (l : Launch) (E : gE) (t : Nat → Nat) (x : Nat → Nat → Int32)  : CtI l E yX1_empty prog_3_method_4_code 2 (some .int) 0 0 0 0 [.ref (t 0)] [((t 0), .inr (1, [.ref (t 1), .ref (t 2), .ref (t 3), .int (x 3 0), .int (x 3 1), .int (x 3 2)]))] (fun r (_ : Unit) => r = f_X1_empty_r x) (fun _ => [((t 0), .inr (1, [.ref (t 1), .ref (t 2), .ref (t 3), .int ((f_X1_empty_x x) 3 0), .int ((f_X1_empty_x x) 3 1), .int ((f_X1_empty_x x) 3 2)]))]) := by
  refine CtI.start (by decide) (Nat.le_of_ble_eq_true rfl) ?_
  intro p_ e_ s_ m_ below_ meth_ c_ A_ C hr hlocks hnm
  refine Wd.cast (lv1 := [(0, .ref (t 0))]) rfl rfl rfl ?_
  refine x_aload_n C dX1_empty_0 0 rfl ?_
  refine x_get (ref := "RomSearchBus$CommandText") (v := .int (x 3 0)) C inX1 0 3 rfl rfl (by decide) kw_fl_X1_22 rfl rfl dX1_empty_1 ?_
  refine x_istore_n (lv1 := [(1, .int (x 3 0)), (0, .ref (t 0))]) C dX1_empty_4 (by decide) rfl ?_
  refine x_aload_n C dX1_empty_5 1 rfl ?_
  refine x_iconst (v := 0) C dX1_empty_6 (by decide) ?_
  refine x_put (ref := "RomSearchBus$CommandText") C inX1 tyX1 tyX1_ok nmX1 0 3 rfl rfl (by decide) kw_fl_X1_22 rfl rfl rfl rfl (Nat.le_of_ble_eq_true rfl) [((t 0), .inr (1, [.ref (t 1), .ref (t 2), .ref (t 3), .int 0, .int (x 3 1), .int (x 3 2)]))] rfl dX1_empty_7 ?_
  refine x_iload_n C dX1_empty_10 0 rfl ?_
  have q_1 : f_X1_empty_x x = (rs x 3 0 0) := (by unfold f_X1_empty_x; rfl)
  exact x_iret C hr hlocks rfl () (Eq.symm (by unfold f_X1_empty_r; rfl)) (by rw [q_1]; exact gEq.rf _) dX1_empty_11
set_option maxHeartbeats 4000000 in
set_option maxRecDepth 100000 in
theorem c_X1_letterOf (l : Launch) (E : gE) (t : Nat → Nat) (x : Nat → Nat → Int32) (q : Int32) (K : Nat) (hi : q = nI K) (hK : K < 60) : CtI l E yX1_letterOf prog_3_method_5_code 2 (some .int) 1 22 0 0 [.ref (t 0), .int q] [((t 0), .inr (1, [.ref (t 1), .ref (t 2), .ref (t 3), .int (x 3 0), .int (x 3 1), .int (x 3 2)])), ((t 1), .inl (E.2.2.1, 120, .inl (x 0))), ((t 2), .inl (E.2.2.1, 60, .inl (x 1))), ((t 3), .inl (E.2.1, 180, .inl (x 2)))] (fun r (_ : Unit) => r = (x 1 K)) (fun _ => [((t 0), .inr (1, [.ref (t 1), .ref (t 2), .ref (t 3), .int (x 3 0), .int (x 3 1), .int (x 3 2)])), ((t 1), .inl (E.2.2.1, 120, .inl (x 0))), ((t 2), .inl (E.2.2.1, 60, .inl (x 1))), ((t 3), .inl (E.2.1, 180, .inl (x 2)))]) := by
  refine CtI.start (by decide) (Nat.le_of_ble_eq_true rfl) ?_
  intro p_ e_ s_ m_ below_ meth_ c_ A_ C hr hlocks hnm
  refine Wd.cast (lv1 := [(0, .ref (t 0)), (1, .int q)]) rfl rfl rfl ?_
  refine x_iload_n C dX1_letterOf_0 1 rfl ?_
  refine x_iconst (v := 0) C dX1_letterOf_1 (by decide) ?_
  refine x_bipush (v := 59) C dX1_letterOf_2 (by decide) ?_
  refine x_callNI (wc := []) (wr := [((t 0), .inr (1, [.ref (t 1), .ref (t 2), .ref (t 3), .int (x 3 0), .int (x 3 1), .int (x 3 2)])), ((t 1), .inl (E.2.2.1, 120, .inl (x 0))), ((t 2), .inl (E.2.2.1, 60, .inl (x 1))), ((t 3), .inl (E.2.1, 180, .inl (x 2)))]) (As := [.int q, .int 0, .int 59]) (rest := []) C (c_X5_isWithin l E q 0 59 ) (gWN (host := RX5) C (by unfold gNest; exact List.mem_of_getElem? (i := 6) rfl) kw_st_X5_isWithin kw_ini_X5 kw_code_X5_isWithin ga_X5_isWithin ⟨Nat.le_of_ble_eq_true rfl, Nat.le_of_ble_eq_true rfl⟩) [] [0, 1, 2, 3] [0, 1, 2, 3] rfl rfl rfl rfl (by decide) (fun _ => [((t 0), .inr (1, [.ref (t 1), .ref (t 2), .ref (t 3), .int (x 3 0), .int (x 3 1), .int (x 3 2)])), ((t 1), .inl (E.2.2.1, 120, .inl (x 0))), ((t 2), .inl (E.2.2.1, 60, .inl (x 1))), ((t 3), .inl (E.2.1, 180, .inl (x 2)))]) rfl (fun _ => rfl) rfl (Nat.le_of_ble_eq_true rfl) ⟨Nat.le_of_ble_eq_true rfl, Nat.le_of_ble_eq_true rfl⟩ rfl dX1_letterOf_4 (fun r_1 _ e_2 => ?_)
  subst e_2
  refine x_ifB_eq (tgt := 19) C dX1_letterOf_7 (by decide) (fun c_7 => absurd (by rw [hi]; exact ⟨nI_pos' (by omega), nI_le (a := K) (b := 59) (by omega) (by decide)⟩) c_7) (fun c_7 => ?_)
  refine x_aload_n C dX1_letterOf_10 0 rfl ?_
  refine x_get (ref := "RomSearchBus$CommandText") (v := .ref (t 2)) C inX1 0 1 rfl rfl (by decide) kw_fl_X1_15 rfl rfl dX1_letterOf_11 ?_
  refine x_iload_n C dX1_letterOf_14 1 rfl ?_
  refine x_baldN (x := (x 1 K)) C 2 rfl hi hK (by decide) rfl dX1_letterOf_15 ?_
  refine x_goto (tgt := 20) C dX1_letterOf_16 (by decide) ?_
  exact x_iret C hr hlocks rfl () rfl (gEq.rf _) dX1_letterOf_20
set_option maxHeartbeats 4000000 in
set_option maxRecDepth 100000 in
theorem c_X1_numberOf (l : Launch) (E : gE) (t : Nat → Nat) (x : Nat → Nat → Int32) (q : Int32) (w : Int32) (K : Nat) (J : Nat) (hi : q = nI K) (hK : K < 60) (hj : w = nI J) (hJ : J < 3) : CtI l E yX1_numberOf prog_3_method_6_code 4 (some .int) 1 22 0 0 [.ref (t 0), .int q, .int w] [((t 0), .inr (1, [.ref (t 1), .ref (t 2), .ref (t 3), .int (x 3 0), .int (x 3 1), .int (x 3 2)])), ((t 1), .inl (E.2.2.1, 120, .inl (x 0))), ((t 2), .inl (E.2.2.1, 60, .inl (x 1))), ((t 3), .inl (E.2.1, 180, .inl (x 2)))] (fun r (_ : Unit) => r = (x 2 (3 * K + J))) (fun _ => [((t 0), .inr (1, [.ref (t 1), .ref (t 2), .ref (t 3), .int (x 3 0), .int (x 3 1), .int (x 3 2)])), ((t 1), .inl (E.2.2.1, 120, .inl (x 0))), ((t 2), .inl (E.2.2.1, 60, .inl (x 1))), ((t 3), .inl (E.2.1, 180, .inl (x 2)))]) := by
  refine CtI.start (by decide) (Nat.le_of_ble_eq_true rfl) ?_
  intro p_ e_ s_ m_ below_ meth_ c_ A_ C hr hlocks hnm
  refine Wd.cast (lv1 := [(0, .ref (t 0)), (1, .int q), (2, .int w)]) rfl rfl rfl ?_
  refine x_iload_n C dX1_numberOf_0 1 rfl ?_
  refine x_iconst (v := 0) C dX1_numberOf_1 (by decide) ?_
  refine x_bipush (v := 59) C dX1_numberOf_2 (by decide) ?_
  refine x_callNI (wc := []) (wr := [((t 0), .inr (1, [.ref (t 1), .ref (t 2), .ref (t 3), .int (x 3 0), .int (x 3 1), .int (x 3 2)])), ((t 1), .inl (E.2.2.1, 120, .inl (x 0))), ((t 2), .inl (E.2.2.1, 60, .inl (x 1))), ((t 3), .inl (E.2.1, 180, .inl (x 2)))]) (As := [.int q, .int 0, .int 59]) (rest := []) C (c_X5_isWithin l E q 0 59 ) (gWN (host := RX5) C (by unfold gNest; exact List.mem_of_getElem? (i := 6) rfl) kw_st_X5_isWithin kw_ini_X5 kw_code_X5_isWithin ga_X5_isWithin ⟨Nat.le_of_ble_eq_true rfl, Nat.le_of_ble_eq_true rfl⟩) [] [0, 1, 2, 3] [0, 1, 2, 3] rfl rfl rfl rfl (by decide) (fun _ => [((t 0), .inr (1, [.ref (t 1), .ref (t 2), .ref (t 3), .int (x 3 0), .int (x 3 1), .int (x 3 2)])), ((t 1), .inl (E.2.2.1, 120, .inl (x 0))), ((t 2), .inl (E.2.2.1, 60, .inl (x 1))), ((t 3), .inl (E.2.1, 180, .inl (x 2)))]) rfl (fun _ => rfl) rfl (Nat.le_of_ble_eq_true rfl) ⟨Nat.le_of_ble_eq_true rfl, Nat.le_of_ble_eq_true rfl⟩ rfl dX1_numberOf_4 (fun r_1 _ e_2 => ?_)
  subst e_2
  refine x_ifB_eq (tgt := 23) C dX1_numberOf_7 (by decide) (fun c_7 => absurd (by rw [hi]; exact ⟨nI_pos' (by omega), nI_le (a := K) (b := 59) (by omega) (by decide)⟩) c_7) (fun c_7 => ?_)
  refine x_iload_n C dX1_numberOf_10 2 rfl ?_
  refine x_iconst (v := 0) C dX1_numberOf_11 (by decide) ?_
  refine x_iconst (v := 2) C dX1_numberOf_12 (by decide) ?_
  refine x_callNI (wc := []) (wr := [((t 0), .inr (1, [.ref (t 1), .ref (t 2), .ref (t 3), .int (x 3 0), .int (x 3 1), .int (x 3 2)])), ((t 1), .inl (E.2.2.1, 120, .inl (x 0))), ((t 2), .inl (E.2.2.1, 60, .inl (x 1))), ((t 3), .inl (E.2.1, 180, .inl (x 2)))]) (As := [.int w, .int 0, .int 2]) (rest := []) C (c_X5_isWithin l E w 0 2 ) (gWN (host := RX5) C (by unfold gNest; exact List.mem_of_getElem? (i := 6) rfl) kw_st_X5_isWithin kw_ini_X5 kw_code_X5_isWithin ga_X5_isWithin ⟨Nat.le_of_ble_eq_true rfl, Nat.le_of_ble_eq_true rfl⟩) [] [0, 1, 2, 3] [0, 1, 2, 3] rfl rfl rfl rfl (by decide) (fun _ => [((t 0), .inr (1, [.ref (t 1), .ref (t 2), .ref (t 3), .int (x 3 0), .int (x 3 1), .int (x 3 2)])), ((t 1), .inl (E.2.2.1, 120, .inl (x 0))), ((t 2), .inl (E.2.2.1, 60, .inl (x 1))), ((t 3), .inl (E.2.1, 180, .inl (x 2)))]) rfl (fun _ => rfl) rfl (Nat.le_of_ble_eq_true rfl) ⟨Nat.le_of_ble_eq_true rfl, Nat.le_of_ble_eq_true rfl⟩ rfl dX1_numberOf_13 (fun r_3 _ e_4 => ?_)
  subst e_4
  refine x_ifB_eq (tgt := 23) C dX1_numberOf_16 (by decide) (fun c_16 => absurd (by rw [hj]; exact ⟨nI_pos' (by omega), nI_le (a := J) (b := 2) (by omega) (by decide)⟩) c_16) (fun c_16 => ?_)
  refine x_iconst (v := 1) C dX1_numberOf_19 (by decide) ?_
  refine x_goto (tgt := 24) C dX1_numberOf_20 (by decide) ?_
  refine x_istore_n (lv1 := [(3, .int 1), (0, .ref (t 0)), (1, .int q), (2, .int w)]) C dX1_numberOf_24 (by decide) rfl ?_
  refine x_iload_n C dX1_numberOf_25 0 rfl ?_
  refine x_if_eq (tgt := 42) C dX1_numberOf_26 (by decide) (fun c_26 => absurd c_26 (by decide)) (fun c_26 => ?_)
  refine x_aload_n C dX1_numberOf_29 1 rfl ?_
  refine x_get (ref := "RomSearchBus$CommandText") (v := .ref (t 3)) C inX1 0 2 rfl rfl (by decide) kw_fl_X1_18 rfl rfl dX1_numberOf_30 ?_
  refine x_iload_n C dX1_numberOf_33 2 rfl ?_
  refine x_iconst (v := 3) C dX1_numberOf_34 (by decide) ?_
  refine x_imul C dX1_numberOf_35 ?_
  refine x_iload_n C dX1_numberOf_36 3 rfl ?_
  refine x_iadd C dX1_numberOf_37 ?_
  refine x_ialdN (x := (x 2 (3 * K + J))) C 3 rfl (by rw [hi, hj, show (3 : Int32) = nI 3 from rfl, pk_mul, nI_add, Nat.mul_comm]) (by omega) (by decide) rfl dX1_numberOf_38 ?_
  refine x_goto (tgt := 43) C dX1_numberOf_39 (by decide) ?_
  exact x_iret C hr hlocks rfl () rfl (gEq.rf _) dX1_numberOf_43
set_option maxHeartbeats 4000000 in
set_option maxRecDepth 100000 in
theorem c_X1_byteAtCursor (l : Launch) (E : gE) (t : Nat → Nat) (x : Nat → Nat → Int32) (L : Nat) (cu : Nat) (hL : x 3 0 = nI L) (hL2 : L ≤ 120) (hc : x 3 2 = nI cu) (hcu : cu < 1000) : CtI l E yX1_byteAtCursor prog_3_method_11_code 1 (some .int) 0 0 0 0 [.ref (t 0)] [((t 0), .inr (1, [.ref (t 1), .ref (t 2), .ref (t 3), .int (x 3 0), .int (x 3 1), .int (x 3 2)])), ((t 1), .inl (E.2.2.1, 120, .inl (x 0))), ((t 2), .inl (E.2.2.1, 60, .inl (x 1))), ((t 3), .inl (E.2.1, 180, .inl (x 2)))] (fun r (_ : Unit) => r = atP (x 0) L cu) (fun _ => [((t 0), .inr (1, [.ref (t 1), .ref (t 2), .ref (t 3), .int (x 3 0), .int (x 3 1), .int (x 3 2)])), ((t 1), .inl (E.2.2.1, 120, .inl (x 0))), ((t 2), .inl (E.2.2.1, 60, .inl (x 1))), ((t 3), .inl (E.2.1, 180, .inl (x 2)))]) := by
  refine CtI.start (by decide) (Nat.le_of_ble_eq_true rfl) ?_
  intro p_ e_ s_ m_ below_ meth_ c_ A_ C hr hlocks hnm
  refine Wd.cast (lv1 := [(0, .ref (t 0))]) rfl rfl rfl ?_
  refine x_aload_n C dX1_byteAtCursor_0 0 rfl ?_
  refine x_get (ref := "RomSearchBus$CommandText") (v := .int (x 3 2)) C inX1 0 5 rfl rfl (by decide) kw_fl_X1_29 rfl rfl dX1_byteAtCursor_1 ?_
  refine x_aload_n C dX1_byteAtCursor_4 0 rfl ?_
  refine x_get (ref := "RomSearchBus$CommandText") (v := .int (x 3 0)) C inX1 0 3 rfl rfl (by decide) kw_fl_X1_22 rfl rfl dX1_byteAtCursor_5 ?_
  refine x_icmp_ge (tgt := 23) C dX1_byteAtCursor_8 (by decide) (fun c_8 => ?_) (fun c_8 => ?_)
  · have hge := nI_geN hL hc (by omega) (by omega) c_8
    refine x_iconst (v := (-1)) C dX1_byteAtCursor_23 (by decide) ?_
    exact x_iret C hr hlocks rfl () (Eq.symm (by unfold atP; rw [if_neg (by omega)])) (gEq.rf _) dX1_byteAtCursor_24
  · have hlt := nI_ltN hL hc (by omega) (by omega) c_8
    refine x_aload_n C dX1_byteAtCursor_11 0 rfl ?_
    refine x_get (ref := "RomSearchBus$CommandText") (v := .ref (t 1)) C inX1 0 0 rfl rfl (by decide) kw_fl_X1_11 rfl rfl dX1_byteAtCursor_12 ?_
    refine x_aload_n C dX1_byteAtCursor_15 0 rfl ?_
    refine x_get (ref := "RomSearchBus$CommandText") (v := .int (x 3 2)) C inX1 0 5 rfl rfl (by decide) kw_fl_X1_29 rfl rfl dX1_byteAtCursor_16 ?_
    refine x_baldN (x := (x 0 cu)) C 1 rfl hc (by omega) (by decide) rfl dX1_byteAtCursor_19 ?_
    refine x_goto (tgt := 24) C dX1_byteAtCursor_20 (by decide) ?_
    exact x_iret C hr hlocks rfl () (Eq.symm (by unfold atP; rw [if_pos hlt])) (gEq.rf _) dX1_byteAtCursor_24
set_option maxHeartbeats 4000000 in
set_option maxRecDepth 100000 in
theorem c_X1_isDigit (l : Launch) (E : gE) (v : Int32)  : CtI l E yX1_isDigit prog_3_method_12_code 1 (some .boolean) 0 0 0 0 [.int v] [] (fun r (_ : Unit) => r = (if 48 ≤ v ∧ v ≤ 57 then 1 else 0)) (fun _ => []) := by
  refine CtI.start (by decide) (Nat.le_of_ble_eq_true rfl) ?_
  intro p_ e_ s_ m_ below_ meth_ c_ A_ C hr hlocks hnm
  refine Wd.cast (lv1 := [(0, .int v)]) rfl rfl rfl ?_
  refine x_iload_n C dX1_isDigit_0 0 rfl ?_
  refine x_bipush (v := 48) C dX1_isDigit_1 (by decide) ?_
  refine x_icmp_lt (tgt := 16) C dX1_isDigit_3 (by decide) (fun c_3 => ?_) (fun c_3 => ?_)
  · refine x_iconst (v := 0) C dX1_isDigit_16 (by decide) ?_
    exact x_iret C hr hlocks rfl () (by first | exact (if_pos (by (try simp only [Int32.lt_iff_toInt_lt, Int32.le_iff_toInt_le, ← Int32.toInt_inj] at *); omega)).symm | exact (if_neg (by (try simp only [Int32.lt_iff_toInt_lt, Int32.le_iff_toInt_le, ← Int32.toInt_inj] at *); omega)).symm) (gEq.rf _) dX1_isDigit_17
  · refine x_iload_n C dX1_isDigit_6 0 rfl ?_
    refine x_bipush (v := 57) C dX1_isDigit_7 (by decide) ?_
    refine x_icmp_gt (tgt := 16) C dX1_isDigit_9 (by decide) (fun c_9 => ?_) (fun c_9 => ?_)
    · refine x_iconst (v := 0) C dX1_isDigit_16 (by decide) ?_
      exact x_iret C hr hlocks rfl () (by first | exact (if_pos (by (try simp only [Int32.lt_iff_toInt_lt, Int32.le_iff_toInt_le, ← Int32.toInt_inj] at *); omega)).symm | exact (if_neg (by (try simp only [Int32.lt_iff_toInt_lt, Int32.le_iff_toInt_le, ← Int32.toInt_inj] at *); omega)).symm) (gEq.rf _) dX1_isDigit_17
    · refine x_iconst (v := 1) C dX1_isDigit_12 (by decide) ?_
      refine x_goto (tgt := 17) C dX1_isDigit_13 (by decide) ?_
      exact x_iret C hr hlocks rfl () (by first | exact (if_pos (by (try simp only [Int32.lt_iff_toInt_lt, Int32.le_iff_toInt_le, ← Int32.toInt_inj] at *); omega)).symm | exact (if_neg (by (try simp only [Int32.lt_iff_toInt_lt, Int32.le_iff_toInt_le, ← Int32.toInt_inj] at *); omega)).symm) (gEq.rf _) dX1_isDigit_17
def f_X1_numbersNeeded_r (v : Int32) : Int32 := if v = 100 then 2 else (if v = 107 then 0 else (if v = 108 then 3 else (if v = 109 then 1 else (if v = 110 then 0 else (if v = 114 then 0 else (if v = 118 then 2 else (if v = 120 then 1 else (-1))))))))
set_option maxHeartbeats 4000000 in
set_option maxRecDepth 100000 in
theorem c_X1_numbersNeeded (l : Launch) (E : gE) (v : Int32)  : CtI l E yX1_numbersNeeded prog_3_method_13_code 1 (some .int) 0 0 0 0 [.int v] [] (fun r (_ : Unit) => r = f_X1_numbersNeeded_r v) (fun _ => []) := by
  refine CtI.start (by decide) (Nat.le_of_ble_eq_true rfl) ?_
  intro p_ e_ s_ m_ below_ meth_ c_ A_ C hr hlocks hnm
  refine Wd.cast (lv1 := [(0, .int v)]) rfl rfl rfl ?_
  refine x_iload_n C dX1_numbersNeeded_0 0 rfl ?_
  by_cases s_1_100 : v = 100
  · refine x_tabIn (tgt := 104) C dX1_numbersNeeded_1 (by rw [s_1_100]; decide) (by rw [s_1_100]; decide) (by rw [s_1_100]; rfl) (by decide) ?_
    refine x_iconst (v := 2) C dX1_numbersNeeded_104 (by decide) ?_
    exact x_iret C hr hlocks rfl () (Eq.symm (by unfold f_X1_numbersNeeded_r; rw [if_pos s_1_100])) (gEq.rf _) dX1_numbersNeeded_105
  by_cases s_1_107 : v = 107
  · refine x_tabIn (tgt := 100) C dX1_numbersNeeded_1 (by rw [s_1_107]; decide) (by rw [s_1_107]; decide) (by rw [s_1_107]; rfl) (by decide) ?_
    refine x_iconst (v := 0) C dX1_numbersNeeded_100 (by decide) ?_
    exact x_iret C hr hlocks rfl () (Eq.symm (by unfold f_X1_numbersNeeded_r; rw [if_neg s_1_100, if_pos s_1_107])) (gEq.rf _) dX1_numbersNeeded_101
  by_cases s_1_108 : v = 108
  · refine x_tabIn (tgt := 106) C dX1_numbersNeeded_1 (by rw [s_1_108]; decide) (by rw [s_1_108]; decide) (by rw [s_1_108]; rfl) (by decide) ?_
    refine x_iconst (v := 3) C dX1_numbersNeeded_106 (by decide) ?_
    exact x_iret C hr hlocks rfl () (Eq.symm (by unfold f_X1_numbersNeeded_r; rw [if_neg s_1_100, if_neg s_1_107, if_pos s_1_108])) (gEq.rf _) dX1_numbersNeeded_107
  by_cases s_1_109 : v = 109
  · refine x_tabIn (tgt := 102) C dX1_numbersNeeded_1 (by rw [s_1_109]; decide) (by rw [s_1_109]; decide) (by rw [s_1_109]; rfl) (by decide) ?_
    refine x_iconst (v := 1) C dX1_numbersNeeded_102 (by decide) ?_
    exact x_iret C hr hlocks rfl () (Eq.symm (by unfold f_X1_numbersNeeded_r; rw [if_neg s_1_100, if_neg s_1_107, if_neg s_1_108, if_pos s_1_109])) (gEq.rf _) dX1_numbersNeeded_103
  by_cases s_1_110 : v = 110
  · refine x_tabIn (tgt := 100) C dX1_numbersNeeded_1 (by rw [s_1_110]; decide) (by rw [s_1_110]; decide) (by rw [s_1_110]; rfl) (by decide) ?_
    refine x_iconst (v := 0) C dX1_numbersNeeded_100 (by decide) ?_
    exact x_iret C hr hlocks rfl () (Eq.symm (by unfold f_X1_numbersNeeded_r; rw [if_neg s_1_100, if_neg s_1_107, if_neg s_1_108, if_neg s_1_109, if_pos s_1_110])) (gEq.rf _) dX1_numbersNeeded_101
  by_cases s_1_114 : v = 114
  · refine x_tabIn (tgt := 100) C dX1_numbersNeeded_1 (by rw [s_1_114]; decide) (by rw [s_1_114]; decide) (by rw [s_1_114]; rfl) (by decide) ?_
    refine x_iconst (v := 0) C dX1_numbersNeeded_100 (by decide) ?_
    exact x_iret C hr hlocks rfl () (Eq.symm (by unfold f_X1_numbersNeeded_r; rw [if_neg s_1_100, if_neg s_1_107, if_neg s_1_108, if_neg s_1_109, if_neg s_1_110, if_pos s_1_114])) (gEq.rf _) dX1_numbersNeeded_101
  by_cases s_1_118 : v = 118
  · refine x_tabIn (tgt := 104) C dX1_numbersNeeded_1 (by rw [s_1_118]; decide) (by rw [s_1_118]; decide) (by rw [s_1_118]; rfl) (by decide) ?_
    refine x_iconst (v := 2) C dX1_numbersNeeded_104 (by decide) ?_
    exact x_iret C hr hlocks rfl () (Eq.symm (by unfold f_X1_numbersNeeded_r; rw [if_neg s_1_100, if_neg s_1_107, if_neg s_1_108, if_neg s_1_109, if_neg s_1_110, if_neg s_1_114, if_pos s_1_118])) (gEq.rf _) dX1_numbersNeeded_105
  by_cases s_1_120 : v = 120
  · refine x_tabIn (tgt := 102) C dX1_numbersNeeded_1 (by rw [s_1_120]; decide) (by rw [s_1_120]; decide) (by rw [s_1_120]; rfl) (by decide) ?_
    refine x_iconst (v := 1) C dX1_numbersNeeded_102 (by decide) ?_
    exact x_iret C hr hlocks rfl () (Eq.symm (by unfold f_X1_numbersNeeded_r; rw [if_neg s_1_100, if_neg s_1_107, if_neg s_1_108, if_neg s_1_109, if_neg s_1_110, if_neg s_1_114, if_neg s_1_118, if_pos s_1_120])) (gEq.rf _) dX1_numbersNeeded_103
  by_cases o_1 : (v).toInt < 100 ∨ 120 < (v).toInt
  · refine x_tabOut (tgt := 108) C dX1_numbersNeeded_1 o_1 (by decide) ?_
    refine x_iconst (v := (-1)) C dX1_numbersNeeded_108 (by decide) ?_
    exact x_iret C hr hlocks rfl () (Eq.symm (by unfold f_X1_numbersNeeded_r; rw [if_neg s_1_100, if_neg s_1_107, if_neg s_1_108, if_neg s_1_109, if_neg s_1_110, if_neg s_1_114, if_neg s_1_118, if_neg s_1_120])) (gEq.rf _) dX1_numbersNeeded_109
  refine x_tabIn (off := 107) (tgt := 108) C dX1_numbersNeeded_1 (fun q => o_1 (Or.inl q)) (fun q => o_1 (Or.inr q)) ?_ (by decide) ?_
  · simp only [← Int32.toInt_inj] at s_1_100 s_1_107 s_1_108 s_1_109 s_1_110 s_1_114 s_1_118 s_1_120
    have e0 : (100 : Int32).toInt = 100 := rfl
    have e1 : (107 : Int32).toInt = 107 := rfl
    have e2 : (108 : Int32).toInt = 108 := rfl
    have e3 : (109 : Int32).toInt = 109 := rfl
    have e4 : (110 : Int32).toInt = 110 := rfl
    have e5 : (114 : Int32).toInt = 114 := rfl
    have e6 : (118 : Int32).toInt = 118 := rfl
    have e7 : (120 : Int32).toInt = 120 := rfl
    generalize (v).toInt = z at *
    obtain ⟨j, hj⟩ : ∃ j : Nat, z = 100 + (j : Int) := ⟨(z - 100).toNat, by omega⟩
    subst hj
    have hj : j < 21 := by omega
    have e : (100 + (j : Int) - 100).toNat = j := by omega
    rw [e]
    have g0 : j ≠ 0 := by omega
    have g1 : j ≠ 7 := by omega
    have g2 : j ≠ 8 := by omega
    have g3 : j ≠ 9 := by omega
    have g4 : j ≠ 10 := by omega
    have g5 : j ≠ 14 := by omega
    have g6 : j ≠ 18 := by omega
    have g7 : j ≠ 20 := by omega
    rcases (by decide : ∀ j : Fin 21, j.val = 0 ∨ j.val = 7 ∨ j.val = 8 ∨ j.val = 9 ∨ j.val = 10 ∨ j.val = 14 ∨ j.val = 18 ∨ j.val = 20 ∨ (#[103, 107, 107, 107, 107, 107, 107, 99, 105, 101, 99, 107, 107, 107, 99, 107, 107, 107, 103, 107, 101] : Array Int)[j.val]? = some 107) ⟨j, hj⟩ with h | h | h | h | h | h | h | h | h
    · exact absurd h g0
    · exact absurd h g1
    · exact absurd h g2
    · exact absurd h g3
    · exact absurd h g4
    · exact absurd h g5
    · exact absurd h g6
    · exact absurd h g7
    · exact h
  refine x_iconst (v := (-1)) C dX1_numbersNeeded_108 (by decide) ?_
  exact x_iret C hr hlocks rfl () (Eq.symm (by unfold f_X1_numbersNeeded_r; rw [if_neg s_1_100, if_neg s_1_107, if_neg s_1_108, if_neg s_1_109, if_neg s_1_110, if_neg s_1_114, if_neg s_1_118, if_neg s_1_120])) (gEq.rf _) dX1_numbersNeeded_109
set_option maxHeartbeats 4000000 in
set_option maxRecDepth 100000 in
theorem c_X1_mayBeNegative (l : Launch) (E : gE) (v : Int32) (q : Int32)  : CtI l E yX1_mayBeNegative prog_3_method_14_code 2 (some .boolean) 0 0 0 0 [.int v, .int q] [] (fun r (_ : Unit) => r = (if (v = 118 ∧ q = 1) ∨ (v = 108 ∧ q = 2) then 1 else 0)) (fun _ => []) := by
  refine CtI.start (by decide) (Nat.le_of_ble_eq_true rfl) ?_
  intro p_ e_ s_ m_ below_ meth_ c_ A_ C hr hlocks hnm
  refine Wd.cast (lv1 := [(0, .int v), (1, .int q)]) rfl rfl rfl ?_
  refine x_iload_n C dX1_mayBeNegative_0 0 rfl ?_
  refine x_bipush (v := 118) C dX1_mayBeNegative_1 (by decide) ?_
  refine x_icmp_ne (tgt := 11) C dX1_mayBeNegative_3 (by decide) (fun c_3 => ?_) (fun c_3 => ?_)
  · refine x_iload_n C dX1_mayBeNegative_11 0 rfl ?_
    refine x_bipush (v := 108) C dX1_mayBeNegative_12 (by decide) ?_
    refine x_icmp_ne (tgt := 26) C dX1_mayBeNegative_14 (by decide) (fun c_14 => ?_) (fun c_14 => ?_)
    · refine x_iconst (v := 0) C dX1_mayBeNegative_26 (by decide) ?_
      exact x_iret C hr hlocks rfl () (by first | exact (if_pos (by (try simp only [Int32.lt_iff_toInt_lt, Int32.le_iff_toInt_le, ← Int32.toInt_inj] at *); first | omega | simp_all)).symm | exact (if_neg (by (try simp only [Int32.lt_iff_toInt_lt, Int32.le_iff_toInt_le, ← Int32.toInt_inj] at *); first | omega | simp_all)).symm) (gEq.rf _) dX1_mayBeNegative_27
    · refine x_iload_n C dX1_mayBeNegative_17 1 rfl ?_
      refine x_iconst (v := 2) C dX1_mayBeNegative_18 (by decide) ?_
      refine x_icmp_ne (tgt := 26) C dX1_mayBeNegative_19 (by decide) (fun c_19 => ?_) (fun c_19 => ?_)
      · refine x_iconst (v := 0) C dX1_mayBeNegative_26 (by decide) ?_
        exact x_iret C hr hlocks rfl () (by first | exact (if_pos (by (try simp only [Int32.lt_iff_toInt_lt, Int32.le_iff_toInt_le, ← Int32.toInt_inj] at *); first | omega | simp_all)).symm | exact (if_neg (by (try simp only [Int32.lt_iff_toInt_lt, Int32.le_iff_toInt_le, ← Int32.toInt_inj] at *); first | omega | simp_all)).symm) (gEq.rf _) dX1_mayBeNegative_27
      · refine x_iconst (v := 1) C dX1_mayBeNegative_22 (by decide) ?_
        refine x_goto (tgt := 27) C dX1_mayBeNegative_23 (by decide) ?_
        exact x_iret C hr hlocks rfl () (by first | exact (if_pos (by (try simp only [Int32.lt_iff_toInt_lt, Int32.le_iff_toInt_le, ← Int32.toInt_inj] at *); first | omega | simp_all)).symm | exact (if_neg (by (try simp only [Int32.lt_iff_toInt_lt, Int32.le_iff_toInt_le, ← Int32.toInt_inj] at *); first | omega | simp_all)).symm) (gEq.rf _) dX1_mayBeNegative_27
  · refine x_iload_n C dX1_mayBeNegative_6 1 rfl ?_
    refine x_iconst (v := 1) C dX1_mayBeNegative_7 (by decide) ?_
    refine x_icmp_eq (tgt := 22) C dX1_mayBeNegative_8 (by decide) (fun c_8 => ?_) (fun c_8 => ?_)
    · refine x_iconst (v := 1) C dX1_mayBeNegative_22 (by decide) ?_
      refine x_goto (tgt := 27) C dX1_mayBeNegative_23 (by decide) ?_
      exact x_iret C hr hlocks rfl () (by first | exact (if_pos (by (try simp only [Int32.lt_iff_toInt_lt, Int32.le_iff_toInt_le, ← Int32.toInt_inj] at *); first | omega | simp_all)).symm | exact (if_neg (by (try simp only [Int32.lt_iff_toInt_lt, Int32.le_iff_toInt_le, ← Int32.toInt_inj] at *); first | omega | simp_all)).symm) (gEq.rf _) dX1_mayBeNegative_27
    · refine x_iload_n C dX1_mayBeNegative_11 0 rfl ?_
      refine x_bipush (v := 108) C dX1_mayBeNegative_12 (by decide) ?_
      refine x_icmp_ne (tgt := 26) C dX1_mayBeNegative_14 (by decide) (fun c_14 => ?_) (fun c_14 => ?_)
      · refine x_iconst (v := 0) C dX1_mayBeNegative_26 (by decide) ?_
        exact x_iret C hr hlocks rfl () (by first | exact (if_pos (by (try simp only [Int32.lt_iff_toInt_lt, Int32.le_iff_toInt_le, ← Int32.toInt_inj] at *); first | omega | simp_all)).symm | exact (if_neg (by (try simp only [Int32.lt_iff_toInt_lt, Int32.le_iff_toInt_le, ← Int32.toInt_inj] at *); first | omega | simp_all)).symm) (gEq.rf _) dX1_mayBeNegative_27
      · refine x_iload_n C dX1_mayBeNegative_17 1 rfl ?_
        refine x_iconst (v := 2) C dX1_mayBeNegative_18 (by decide) ?_
        refine x_icmp_ne (tgt := 26) C dX1_mayBeNegative_19 (by decide) (fun c_19 => ?_) (fun c_19 => ?_)
        · refine x_iconst (v := 0) C dX1_mayBeNegative_26 (by decide) ?_
          exact x_iret C hr hlocks rfl () (by first | exact (if_pos (by (try simp only [Int32.lt_iff_toInt_lt, Int32.le_iff_toInt_le, ← Int32.toInt_inj] at *); first | omega | simp_all)).symm | exact (if_neg (by (try simp only [Int32.lt_iff_toInt_lt, Int32.le_iff_toInt_le, ← Int32.toInt_inj] at *); first | omega | simp_all)).symm) (gEq.rf _) dX1_mayBeNegative_27
        · refine x_iconst (v := 1) C dX1_mayBeNegative_22 (by decide) ?_
          refine x_goto (tgt := 27) C dX1_mayBeNegative_23 (by decide) ?_
          exact x_iret C hr hlocks rfl () (by first | exact (if_pos (by (try simp only [Int32.lt_iff_toInt_lt, Int32.le_iff_toInt_le, ← Int32.toInt_inj] at *); first | omega | simp_all)).symm | exact (if_neg (by (try simp only [Int32.lt_iff_toInt_lt, Int32.le_iff_toInt_le, ← Int32.toInt_inj] at *); first | omega | simp_all)).symm) (gEq.rf _) dX1_mayBeNegative_27

set_option maxHeartbeats 4000000 in
set_option maxRecDepth 100000 in
theorem c_X1_skipSpaces (l : Launch) (E : gE) (t : Nat → Nat) (x : Nat → Nat → Int32) (L : Nat) (cu : Nat) (hL : x 3 0 = nI L) (hL2 : L ≤ 120) (hc : x 3 2 = nI cu) (hcu : cu < 1000) : CtV l E yX1_skipSpaces prog_3_method_10_code 1 none 1 20 0 0 [.ref (t 0)] [((t 0), .inr (1, [.ref (t 1), .ref (t 2), .ref (t 3), .int (x 3 0), .int (x 3 1), .int (x 3 2)])), ((t 1), .inl (E.2.2.1, 120, .inl (x 0))), ((t 2), .inl (E.2.2.1, 60, .inl (x 1))), ((t 3), .inl (E.2.1, 180, .inl (x 2)))] (fun _ : Unit => True) (fun _ => [((t 0), .inr (1, [.ref (t 1), .ref (t 2), .ref (t 3), .int (x 3 0), .int (x 3 1), .int (nI (skip (x 0) L cu))])), ((t 1), .inl (E.2.2.1, 120, .inl (x 0))), ((t 2), .inl (E.2.2.1, 60, .inl (x 1))), ((t 3), .inl (E.2.1, 180, .inl (x 2)))]) := by
  refine CtV.start (by decide) (Nat.le_of_ble_eq_true rfl) ?_
  intro p_ e_ s_ m_ below_ meth_ c_ A_ C hr hlocks hnm
  refine Wd.cast (lv1 := [(0, .ref (t 0))]) rfl rfl rfl ?_
  have w_1 : (x 3 2) = (nI cu) := hc
  refine Wd.cast (w1 := [((t 0), .inr (1, [.ref (t 1), .ref (t 2), .ref (t 3), .int (x 3 0), .int (x 3 1), .int (nI cu)])), ((t 1), .inl (E.2.2.1, 120, .inl (x 0))), ((t 2), .inl (E.2.2.1, 60, .inl (x 1))), ((t 3), .inl (E.2.1, 180, .inl (x 2)))]) (lv1 := [(0, .ref (t 0))]) (by first | (rw [w_1]; done) | (rw [← w_1]; done) | simp only [w_1]) rfl rfl ?_
  refine Wd.wh1 (W1 := fun (q : Nat) => [((t 0), .inr (1, [.ref (t 1), .ref (t 2), .ref (t 3), .int (x 3 0), .int (x 3 1), .int (nI q)])), ((t 1), .inl (E.2.2.1, 120, .inl (x 0))), ((t 2), .inl (E.2.2.1, 60, .inl (x 1))), ((t 3), .inl (E.2.1, 180, .inl (x 2)))]) (LV := fun (q : Nat) => [(0, .ref (t 0))]) (fun (q : Nat) => (q < 1000) ∧ skip (x 0) L q = skip (x 0) L cu) (fun (q : Nat) => L - q) cu (⟨hcu, rfl⟩) (fun q hI ih => ?_)
  refine Wd.cast (w1 := [((t 0), .inr (1, [.ref (t 1), .ref (t 2), .ref (t 3), .int (x 3 0), .int (x 3 1), .int (nI q)])), ((t 1), .inl (E.2.2.1, 120, .inl (x 0))), ((t 2), .inl (E.2.2.1, 60, .inl (x 1))), ((t 3), .inl (E.2.1, 180, .inl (x 2)))]) (lv1 := [(0, .ref (t 0))]) rfl rfl rfl ?_
  have hq := hI.1
  refine x_aload_n C dX1_skipSpaces_0 0 rfl ?_
  refine x_get (ref := "RomSearchBus$CommandText") (v := .int (nI q)) C inX1 0 5 rfl rfl (by decide) kw_fl_X1_29 rfl rfl dX1_skipSpaces_1 ?_
  refine x_aload_n C dX1_skipSpaces_4 0 rfl ?_
  refine x_get (ref := "RomSearchBus$CommandText") (v := .int (x 3 0)) C inX1 0 3 rfl rfl (by decide) kw_fl_X1_22 rfl rfl dX1_skipSpaces_5 ?_
  refine x_icmp_ge (tgt := 33) C dX1_skipSpaces_8 (by decide) (fun c_8 => ?_) (fun c_8 => ?_)
  · have hz : skip (x 0) L q = q := skip_end (nI_geN hL rfl (by omega) (by omega) c_8)
    exact x_vret C hr hlocks () trivial (by rw [← hI.2, hz]; exact gEq.rf _) dX1_skipSpaces_33
  · have hlt := nI_ltN hL rfl (by omega) (by omega) c_8
    refine x_aload_n C dX1_skipSpaces_11 0 rfl ?_
    refine x_callVI (wc := [((t 0), .inr (1, [.ref (t 1), .ref (t 2), .ref (t 3), .int (x 3 0), .int (x 3 1), .int (nI q)])), ((t 1), .inl (E.2.2.1, 120, .inl (x 0))), ((t 2), .inl (E.2.2.1, 60, .inl (x 1))), ((t 3), .inl (E.2.1, 180, .inl (x 2)))]) (wr := []) (As := []) (rest := []) (ci := 1) (q0 := 0) C (c_X1_byteAtCursor l E t (rs x 3 2 (nI q)) L q hL hL2 rfl (by omega)) (gWV C kw_ml_X1_46 kw_im_X1_byteAtCursor kw_sel_X1_byteAtCursor kw_ini_X1 kw_code_X1_byteAtCursor ga_X1_byteAtCursor ⟨Nat.le_of_ble_eq_true rfl, Nat.le_of_ble_eq_true rfl⟩) rfl rfl [0, 1, 2, 3] [] [0, 1, 2, 3] rfl rfl rfl rfl (by decide) (fun _ => [((t 0), .inr (1, [.ref (t 1), .ref (t 2), .ref (t 3), .int (x 3 0), .int (x 3 1), .int (nI q)])), ((t 1), .inl (E.2.2.1, 120, .inl (x 0))), ((t 2), .inl (E.2.2.1, 60, .inl (x 1))), ((t 3), .inl (E.2.1, 180, .inl (x 2)))]) rfl (fun _ => rfl) rfl (Nat.le_of_ble_eq_true rfl) ⟨Nat.le_of_ble_eq_true rfl, Nat.le_of_ble_eq_true rfl⟩ rfl dX1_skipSpaces_12 (fun r_2 _ e_3 => ?_)
    subst e_3
    refine Wd.cast (w1 := [((t 0), .inr (1, [.ref (t 1), .ref (t 2), .ref (t 3), .int (x 3 0), .int (x 3 1), .int (nI q)])), ((t 1), .inl (E.2.2.1, 120, .inl (x 0))), ((t 2), .inl (E.2.2.1, 60, .inl (x 1))), ((t 3), .inl (E.2.1, 180, .inl (x 2)))]) (lv1 := [(0, .ref (t 0))]) (st1 := [.int (atP (x 0) L q)]) rfl rfl rfl ?_
    refine x_bipush (v := 32) C dX1_skipSpaces_15 (by decide) ?_
    refine x_icmp_ne (tgt := 33) C dX1_skipSpaces_17 (by decide) (fun c_17 => ?_) (fun c_17 => ?_)
    · have hz : skip (x 0) L q = q := skip_ns (by have z := c_17; rwa [show atP (x 0) L q = x 0 q from if_pos hlt] at z)
      exact x_vret C hr hlocks () trivial (by rw [← hI.2, hz]; exact gEq.rf _) dX1_skipSpaces_33
    · refine x_aload_n C dX1_skipSpaces_20 0 rfl ?_
      refine x_dup C dX1_skipSpaces_21 rfl ?_
      refine x_get (ref := "RomSearchBus$CommandText") (v := .int (nI q)) C inX1 0 5 rfl rfl (by decide) kw_fl_X1_29 rfl rfl dX1_skipSpaces_22 ?_
      refine x_iconst (v := 1) C dX1_skipSpaces_25 (by decide) ?_
      refine x_iadd C dX1_skipSpaces_26 ?_
      refine Wd.cast (w1 := [((t 0), .inr (1, [.ref (t 1), .ref (t 2), .ref (t 3), .int (x 3 0), .int (x 3 1), .int (nI q)])), ((t 1), .inl (E.2.2.1, 120, .inl (x 0))), ((t 2), .inl (E.2.2.1, 60, .inl (x 1))), ((t 3), .inl (E.2.1, 180, .inl (x 2)))]) (lv1 := [(0, .ref (t 0))]) (st1 := [.int (nI (q + 1)), .ref (t 0)]) rfl rfl (by rw [nI_1]) ?_
      refine x_put (ref := "RomSearchBus$CommandText") C inX1 tyX1 tyX1_ok nmX1 0 5 rfl rfl (by decide) kw_fl_X1_29 rfl rfl rfl rfl (Nat.le_of_ble_eq_true rfl) [((t 0), .inr (1, [.ref (t 1), .ref (t 2), .ref (t 3), .int (x 3 0), .int (x 3 1), .int (nI (q + 1))])), ((t 1), .inl (E.2.2.1, 120, .inl (x 0))), ((t 2), .inl (E.2.2.1, 60, .inl (x 1))), ((t 3), .inl (E.2.1, 180, .inl (x 2)))] rfl dX1_skipSpaces_27 ?_
      refine x_goto (tgt := 0) C dX1_skipSpaces_30 (by decide) ?_
      exact Wd.cast (w1 := [((t 0), .inr (1, [.ref (t 1), .ref (t 2), .ref (t 3), .int (x 3 0), .int (x 3 1), .int (nI (q + 1))])), ((t 1), .inl (E.2.2.1, 120, .inl (x 0))), ((t 2), .inl (E.2.2.1, 60, .inl (x 1))), ((t 3), .inl (E.2.1, 180, .inl (x 2)))]) (lv1 := [(0, .ref (t 0))]) rfl rfl rfl (ih (q + 1) (⟨by omega, by rw [← hI.2, skip_sp hlt (by have z := c_17; rwa [show atP (x 0) L q = x 0 q from if_pos hlt] at z)]⟩) (by omega))
set_option maxHeartbeats 4000000 in
set_option maxRecDepth 100000 in
theorem c_X1_readNumber (l : Launch) (E : gE) (t : Nat → Nat) (x : Nat → Nat → Int32) (pl : Int32) (sg : Int32) (L : Nat) (cu : Nat) (nc : Nat) (K : Nat) (hL : x 3 0 = nI L) (hL2 : L ≤ 120) (hc : x 3 2 = nI cu) (hcu : cu < 1000) (hnc : x 3 1 = nI nc) (hn6 : nc < 60) (hp : pl = nI K) (hK : K < 3) (hc9 : cu < 900) : CtI l E yX1_readNumber prog_3_method_9_code 6 (some .boolean) 1 20 0 0 [.ref (t 0), .int pl, .int sg] [((t 0), .inr (1, [.ref (t 1), .ref (t 2), .ref (t 3), .int (x 3 0), .int (x 3 1), .int (x 3 2)])), ((t 1), .inl (E.2.2.1, 120, .inl (x 0))), ((t 2), .inl (E.2.2.1, 60, .inl (x 1))), ((t 3), .inl (E.2.1, 180, .inl (x 2)))] (fun r (_ : Unit) => r = (if nOk (x 0) L cu sg then 1 else 0)) (fun _ => [((t 0), .inr (1, [.ref (t 1), .ref (t 2), .ref (t 3), .int (x 3 0), .int (x 3 1), .int (nI (nE (x 0) L cu sg))])), ((t 1), .inl (E.2.2.1, 120, .inl (x 0))), ((t 2), .inl (E.2.2.1, 60, .inl (x 1))), ((t 3), .inl (E.2.1, 180, .inl (upd (x 2) (3 * nc + K) (nVal (x 0) L cu sg))))]) := by
  refine CtI.start (by decide) (Nat.le_of_ble_eq_true rfl) ?_
  intro p_ e_ s_ m_ below_ meth_ c_ A_ C hr hlocks hnm
  refine Wd.cast (lv1 := [(0, .ref (t 0)), (1, .int pl), (2, .int sg)]) rfl rfl rfl ?_
  refine Wd.cast (w1 := [((t 0), .inr (1, [.ref (t 1), .ref (t 2), .ref (t 3), .int (x 3 0), .int (x 3 1), .int (nI cu)])), ((t 1), .inl (E.2.2.1, 120, .inl (x 0))), ((t 2), .inl (E.2.2.1, 60, .inl (x 1))), ((t 3), .inl (E.2.1, 180, .inl (x 2)))]) (lv1 := [(0, .ref (t 0)), (1, .int pl), (2, .int sg)]) (by rw [hc]) rfl rfl ?_
  refine x_iload_n C dX1_readNumber_0 2 rfl ?_
  refine Wd.mrg (P := ngP (x 0) L cu sg) (a := 1) (b := 0) (pc2 := 18) (w2 := [((t 0), .inr (1, [.ref (t 1), .ref (t 2), .ref (t 3), .int (x 3 0), .int (x 3 1), .int (nI cu)])), ((t 1), .inl (E.2.2.1, 120, .inl (x 0))), ((t 2), .inl (E.2.2.1, 60, .inl (x 1))), ((t 3), .inl (E.2.1, 180, .inl (x 2)))]) (lv2 := [(0, .ref (t 0)), (1, .int pl), (2, .int sg)]) (st2 := []) (fun j1 j2 => ?_) ?_
  · refine x_if_eq (tgt := 17) C dX1_readNumber_1 (by decide) (fun c_1 => ?_) (fun c_1 => ?_)
    · refine x_iconst (v := 0) C dX1_readNumber_17 (by decide) ?_
      exact j2 (fun z => z.1 c_1)
    · refine x_aload_n C dX1_readNumber_4 0 rfl ?_
      refine x_callVI (wc := [((t 0), .inr (1, [.ref (t 1), .ref (t 2), .ref (t 3), .int (x 3 0), .int (x 3 1), .int (nI cu)])), ((t 1), .inl (E.2.2.1, 120, .inl (x 0))), ((t 2), .inl (E.2.2.1, 60, .inl (x 1))), ((t 3), .inl (E.2.1, 180, .inl (x 2)))]) (wr := []) (As := []) (rest := []) (ci := 1) (q0 := 0) C (c_X1_byteAtCursor l E t (rs x 3 2 (nI cu)) L cu hL hL2 rfl (by omega)) (gWV C kw_ml_X1_46 kw_im_X1_byteAtCursor kw_sel_X1_byteAtCursor kw_ini_X1 kw_code_X1_byteAtCursor ga_X1_byteAtCursor ⟨Nat.le_of_ble_eq_true rfl, Nat.le_of_ble_eq_true rfl⟩) rfl rfl [0, 1, 2, 3] [] [0, 1, 2, 3] rfl rfl rfl rfl (by decide) (fun _ => [((t 0), .inr (1, [.ref (t 1), .ref (t 2), .ref (t 3), .int (x 3 0), .int (x 3 1), .int (nI cu)])), ((t 1), .inl (E.2.2.1, 120, .inl (x 0))), ((t 2), .inl (E.2.2.1, 60, .inl (x 1))), ((t 3), .inl (E.2.1, 180, .inl (x 2)))]) rfl (fun _ => rfl) rfl (Nat.le_of_ble_eq_true rfl) ⟨Nat.le_of_ble_eq_true rfl, Nat.le_of_ble_eq_true rfl⟩ rfl dX1_readNumber_5 (fun r_1 _ e_2 => ?_)
      subst e_2
      refine Wd.cast (w1 := [((t 0), .inr (1, [.ref (t 1), .ref (t 2), .ref (t 3), .int (x 3 0), .int (x 3 1), .int (nI cu)])), ((t 1), .inl (E.2.2.1, 120, .inl (x 0))), ((t 2), .inl (E.2.2.1, 60, .inl (x 1))), ((t 3), .inl (E.2.1, 180, .inl (x 2)))]) (lv1 := [(0, .ref (t 0)), (1, .int pl), (2, .int sg)]) (st1 := [.int (atP (x 0) L cu)]) rfl rfl rfl ?_
      refine x_bipush (v := 45) C dX1_readNumber_8 (by decide) ?_
      refine x_icmp_ne (tgt := 17) C dX1_readNumber_10 (by decide) (fun c_10 => ?_) (fun c_10 => ?_)
      · refine x_iconst (v := 0) C dX1_readNumber_17 (by decide) ?_
        exact j2 (fun z => c_10 z.2)
      · refine x_iconst (v := 1) C dX1_readNumber_13 (by decide) ?_
        refine x_goto (tgt := 18) C dX1_readNumber_14 (by decide) ?_
        exact j1 ⟨c_1, c_10⟩
  refine x_istore_n (lv1 := [(3, .int (if ngP (x 0) L cu sg then 1 else 0)), (0, .ref (t 0)), (1, .int pl), (2, .int sg)]) C dX1_readNumber_18 (by decide) rfl ?_
  refine x_iload_n C dX1_readNumber_19 0 rfl ?_
  refine x_ifB_eq (tgt := 33) C dX1_readNumber_20 (by decide) (fun c_20 => ?_) (fun c_20 => ?_)
  · refine x_iconst (v := 0) C dX1_readNumber_33 (by decide) ?_
    refine x_istore (lv1 := [(4, .int 0), (3, .int (if ngP (x 0) L cu sg then 1 else 0)), (0, .ref (t 0)), (1, .int pl), (2, .int sg)]) C dX1_readNumber_34 (by decide) rfl ?_
    refine x_iconst (v := 0) C dX1_readNumber_36 (by decide) ?_
    refine x_istore (lv1 := [(5, .int 0), (4, .int 0), (3, .int (if ngP (x 0) L cu sg then 1 else 0)), (0, .ref (t 0)), (1, .int pl), (2, .int sg)]) C dX1_readNumber_37 (by decide) rfl ?_
    refine x_iload C dX1_readNumber_39 0 rfl ?_
    refine x_iconst (v := 3) C dX1_readNumber_41 (by decide) ?_
    refine x_icmp_ge (tgt := 86) C dX1_readNumber_42 (by decide) (fun c_42 => absurd c_42 (by decide)) (fun c_42 => ?_)
    refine x_aload_n C dX1_readNumber_45 3 rfl ?_
    refine x_callVI (wc := [((t 0), .inr (1, [.ref (t 1), .ref (t 2), .ref (t 3), .int (x 3 0), .int (x 3 1), .int (nI cu)])), ((t 1), .inl (E.2.2.1, 120, .inl (x 0))), ((t 2), .inl (E.2.2.1, 60, .inl (x 1))), ((t 3), .inl (E.2.1, 180, .inl (x 2)))]) (wr := []) (As := []) (rest := []) (ci := 1) (q0 := 0) C (c_X1_byteAtCursor l E t (rs x 3 2 (nI cu)) L cu hL hL2 rfl (by omega)) (gWV C kw_ml_X1_46 kw_im_X1_byteAtCursor kw_sel_X1_byteAtCursor kw_ini_X1 kw_code_X1_byteAtCursor ga_X1_byteAtCursor ⟨Nat.le_of_ble_eq_true rfl, Nat.le_of_ble_eq_true rfl⟩) rfl rfl [0, 1, 2, 3] [] [0, 1, 2, 3] rfl rfl rfl rfl (by decide) (fun _ => [((t 0), .inr (1, [.ref (t 1), .ref (t 2), .ref (t 3), .int (x 3 0), .int (x 3 1), .int (nI cu)])), ((t 1), .inl (E.2.2.1, 120, .inl (x 0))), ((t 2), .inl (E.2.2.1, 60, .inl (x 1))), ((t 3), .inl (E.2.1, 180, .inl (x 2)))]) rfl (fun _ => rfl) rfl (Nat.le_of_ble_eq_true rfl) ⟨Nat.le_of_ble_eq_true rfl, Nat.le_of_ble_eq_true rfl⟩ rfl dX1_readNumber_46 (fun r_3 _ e_4 => ?_)
    subst e_4
    refine Wd.cast (w1 := [((t 0), .inr (1, [.ref (t 1), .ref (t 2), .ref (t 3), .int (x 3 0), .int (x 3 1), .int (nI cu)])), ((t 1), .inl (E.2.2.1, 120, .inl (x 0))), ((t 2), .inl (E.2.2.1, 60, .inl (x 1))), ((t 3), .inl (E.2.1, 180, .inl (x 2)))]) (lv1 := [(5, .int 0), (4, .int 0), (3, .int (if ngP (x 0) L cu sg then 1 else 0)), (0, .ref (t 0)), (1, .int pl), (2, .int sg)]) (st1 := [.int (atP (x 0) L cu)]) rfl rfl rfl ?_
    refine x_callSI (wc := []) (wr := [((t 0), .inr (1, [.ref (t 1), .ref (t 2), .ref (t 3), .int (x 3 0), .int (x 3 1), .int (nI cu)])), ((t 1), .inl (E.2.2.1, 120, .inl (x 0))), ((t 2), .inl (E.2.2.1, 60, .inl (x 1))), ((t 3), .inl (E.2.1, 180, .inl (x 2)))]) (As := [.int (atP (x 0) L cu)]) (rest := []) C (c_X1_isDigit l E (atP (x 0) L cu) ) (gWS C kw_ml_X1_62 kw_st_X1_isDigit kw_ini_X1 kw_code_X1_isDigit ga_X1_isDigit ⟨Nat.le_of_ble_eq_true rfl, Nat.le_of_ble_eq_true rfl⟩) [] [0, 1, 2, 3] [0, 1, 2, 3] rfl rfl rfl rfl (by decide) (fun _ => [((t 0), .inr (1, [.ref (t 1), .ref (t 2), .ref (t 3), .int (x 3 0), .int (x 3 1), .int (nI cu)])), ((t 1), .inl (E.2.2.1, 120, .inl (x 0))), ((t 2), .inl (E.2.2.1, 60, .inl (x 1))), ((t 3), .inl (E.2.1, 180, .inl (x 2)))]) rfl (fun _ => rfl) rfl (Nat.le_of_ble_eq_true rfl) ⟨Nat.le_of_ble_eq_true rfl, Nat.le_of_ble_eq_true rfl⟩ rfl dX1_readNumber_49 (fun r_5 _ e_6 => ?_)
    subst e_6
    refine x_ifB_eq (tgt := 86) C dX1_readNumber_52 (by decide) (fun c_52 => ?_) (fun c_52 => ?_)
    · refine x_aload_n C dX1_readNumber_86 3 rfl ?_
      refine x_get (ref := "RomSearchBus$CommandText") (v := .ref (t 3)) C inX1 0 2 rfl rfl (by decide) kw_fl_X1_18 rfl rfl dX1_readNumber_87 ?_
      refine x_aload_n C dX1_readNumber_90 3 rfl ?_
      refine x_get (ref := "RomSearchBus$CommandText") (v := .int (x 3 1)) C inX1 0 4 rfl rfl (by decide) kw_fl_X1_26 rfl rfl dX1_readNumber_91 ?_
      refine x_iconst (v := 3) C dX1_readNumber_94 (by decide) ?_
      refine x_imul C dX1_readNumber_95 ?_
      refine x_iload_n C dX1_readNumber_96 4 rfl ?_
      refine x_iadd C dX1_readNumber_97 ?_
      refine x_iload_n C dX1_readNumber_98 2 rfl ?_
      refine x_ifB_eq (tgt := 108) C dX1_readNumber_99 (by decide) (fun c_99 => ?_) (fun c_99 => absurd c_99 c_20)
      refine x_iload C dX1_readNumber_108 1 rfl ?_
      refine x_iastN C 3 rfl (by rw [hnc, hp, show (3 : Int32) = nI 3 from rfl, pk_mul, nI_add, Nat.mul_comm]) (by omega) (by decide) [((t 0), .inr (1, [.ref (t 1), .ref (t 2), .ref (t 3), .int (x 3 0), .int (x 3 1), .int (nI cu)])), ((t 1), .inl (E.2.2.1, 120, .inl (x 0))), ((t 2), .inl (E.2.2.1, 60, .inl (x 1))), ((t 3), .inl (E.2.1, 180, .inl (upd (x 2) (3 * nc + K) 0)))] rfl dX1_readNumber_110 ?_
      refine x_iload C dX1_readNumber_111 0 rfl ?_
      refine x_if_le (tgt := 130) C dX1_readNumber_113 (by decide) (fun c_113 => ?_) (fun c_113 => absurd c_113 (by decide))
      refine x_iconst (v := 0) C dX1_readNumber_130 (by decide) ?_
      have e1 : nS (x 0) L cu sg = cu := by unfold nS; rw [if_neg c_20]
      have e2 : nD (x 0) L cu = 0 := by unfold nD; rw [if_neg c_52]
      have e3 : nVal (x 0) L cu sg = 0 := by unfold nVal; rw [if_neg c_20, e1]; unfold nV; rw [if_neg c_52]
      have e4 : nE (x 0) L cu sg = cu + 0 := by unfold nE; rw [e1, e2]
      have e5 : ¬ nOk (x 0) L cu sg := by
        intro z; have z1 := z.1; rw [e1, e2] at z1; exact absurd z1 (by decide)
      exact x_iret C hr hlocks rfl () (by rw [if_neg e5]) (by rw [e3, e4]; exact gEq.rf _) dX1_readNumber_131
    · refine x_bipush (v := 10) C dX1_readNumber_55 (by decide) ?_
      refine x_iload C dX1_readNumber_57 1 rfl ?_
      refine x_imul C dX1_readNumber_59 ?_
      refine Wd.cast (w1 := [((t 0), .inr (1, [.ref (t 1), .ref (t 2), .ref (t 3), .int (x 3 0), .int (x 3 1), .int (nI cu)])), ((t 1), .inl (E.2.2.1, 120, .inl (x 0))), ((t 2), .inl (E.2.2.1, 60, .inl (x 1))), ((t 3), .inl (E.2.1, 180, .inl (x 2)))]) (lv1 := [(5, .int 0), (4, .int 0), (3, .int (if ngP (x 0) L cu sg then 1 else 0)), (0, .ref (t 0)), (1, .int pl), (2, .int sg)]) (st1 := [.int 0]) rfl rfl rfl ?_
      refine x_aload_n C dX1_readNumber_60 3 rfl ?_
      refine x_callVI (wc := [((t 0), .inr (1, [.ref (t 1), .ref (t 2), .ref (t 3), .int (x 3 0), .int (x 3 1), .int (nI cu)])), ((t 1), .inl (E.2.2.1, 120, .inl (x 0))), ((t 2), .inl (E.2.2.1, 60, .inl (x 1))), ((t 3), .inl (E.2.1, 180, .inl (x 2)))]) (wr := []) (As := []) (rest := [.int 0]) (ci := 1) (q0 := 0) C (c_X1_byteAtCursor l E t (rs x 3 2 (nI cu)) L cu hL hL2 rfl (by omega)) (gWV C kw_ml_X1_46 kw_im_X1_byteAtCursor kw_sel_X1_byteAtCursor kw_ini_X1 kw_code_X1_byteAtCursor ga_X1_byteAtCursor ⟨Nat.le_of_ble_eq_true rfl, Nat.le_of_ble_eq_true rfl⟩) rfl rfl [0, 1, 2, 3] [] [0, 1, 2, 3] rfl rfl rfl rfl (by decide) (fun _ => [((t 0), .inr (1, [.ref (t 1), .ref (t 2), .ref (t 3), .int (x 3 0), .int (x 3 1), .int (nI cu)])), ((t 1), .inl (E.2.2.1, 120, .inl (x 0))), ((t 2), .inl (E.2.2.1, 60, .inl (x 1))), ((t 3), .inl (E.2.1, 180, .inl (x 2)))]) rfl (fun _ => rfl) rfl (Nat.le_of_ble_eq_true rfl) ⟨Nat.le_of_ble_eq_true rfl, Nat.le_of_ble_eq_true rfl⟩ rfl dX1_readNumber_61 (fun r_7 _ e_8 => ?_)
      subst e_8
      refine Wd.cast (w1 := [((t 0), .inr (1, [.ref (t 1), .ref (t 2), .ref (t 3), .int (x 3 0), .int (x 3 1), .int (nI cu)])), ((t 1), .inl (E.2.2.1, 120, .inl (x 0))), ((t 2), .inl (E.2.2.1, 60, .inl (x 1))), ((t 3), .inl (E.2.1, 180, .inl (x 2)))]) (lv1 := [(5, .int 0), (4, .int 0), (3, .int (if ngP (x 0) L cu sg then 1 else 0)), (0, .ref (t 0)), (1, .int pl), (2, .int sg)]) (st1 := [.int (atP (x 0) L cu), .int 0]) rfl rfl rfl ?_
      refine x_iadd C dX1_readNumber_64 ?_
      refine x_bipush (v := 48) C dX1_readNumber_65 (by decide) ?_
      refine x_isub C dX1_readNumber_67 ?_
      refine x_istore (lv1 := [(4, .int ((0 + (atP (x 0) L cu)) - 48)), (5, .int 0), (3, .int (if ngP (x 0) L cu sg then 1 else 0)), (0, .ref (t 0)), (1, .int pl), (2, .int sg)]) C dX1_readNumber_68 (by decide) rfl ?_
      refine x_aload_n C dX1_readNumber_70 3 rfl ?_
      refine x_dup C dX1_readNumber_71 rfl ?_
      refine x_get (ref := "RomSearchBus$CommandText") (v := .int (nI cu)) C inX1 0 5 rfl rfl (by decide) kw_fl_X1_29 rfl rfl dX1_readNumber_72 ?_
      refine x_iconst (v := 1) C dX1_readNumber_75 (by decide) ?_
      refine x_iadd C dX1_readNumber_76 ?_
      refine Wd.cast (w1 := [((t 0), .inr (1, [.ref (t 1), .ref (t 2), .ref (t 3), .int (x 3 0), .int (x 3 1), .int (nI cu)])), ((t 1), .inl (E.2.2.1, 120, .inl (x 0))), ((t 2), .inl (E.2.2.1, 60, .inl (x 1))), ((t 3), .inl (E.2.1, 180, .inl (x 2)))]) (lv1 := [(4, .int ((0 + (atP (x 0) L cu)) - 48)), (5, .int 0), (3, .int (if ngP (x 0) L cu sg then 1 else 0)), (0, .ref (t 0)), (1, .int pl), (2, .int sg)]) (st1 := [.int (nI (cu + 1)), .ref (t 0)]) rfl rfl (by rw [nI_1]) ?_
      refine x_put (ref := "RomSearchBus$CommandText") C inX1 tyX1 tyX1_ok nmX1 0 5 rfl rfl (by decide) kw_fl_X1_29 rfl rfl rfl rfl (Nat.le_of_ble_eq_true rfl) [((t 0), .inr (1, [.ref (t 1), .ref (t 2), .ref (t 3), .int (x 3 0), .int (x 3 1), .int (nI (cu + 1))])), ((t 1), .inl (E.2.2.1, 120, .inl (x 0))), ((t 2), .inl (E.2.2.1, 60, .inl (x 1))), ((t 3), .inl (E.2.1, 180, .inl (x 2)))] rfl dX1_readNumber_77 ?_
      refine x_iinc (j := 1) (v := 1) (lv1 := [(5, .int 1), (4, .int ((0 + (atP (x 0) L cu)) - 48)), (3, .int (if ngP (x 0) L cu sg then 1 else 0)), (0, .ref (t 0)), (1, .int pl), (2, .int sg)]) C dX1_readNumber_80 rfl (by decide) (by decide) rfl ?_
      refine x_goto (tgt := 39) C dX1_readNumber_83 (by decide) ?_
      refine x_iload C dX1_readNumber_39 0 rfl ?_
      refine x_iconst (v := 3) C dX1_readNumber_41 (by decide) ?_
      refine x_icmp_ge (tgt := 86) C dX1_readNumber_42 (by decide) (fun c_42_2 => absurd c_42_2 (by decide)) (fun c_42_2 => ?_)
      refine x_aload_n C dX1_readNumber_45 3 rfl ?_
      refine x_callVI (wc := [((t 0), .inr (1, [.ref (t 1), .ref (t 2), .ref (t 3), .int (x 3 0), .int (x 3 1), .int (nI (cu + 1))])), ((t 1), .inl (E.2.2.1, 120, .inl (x 0))), ((t 2), .inl (E.2.2.1, 60, .inl (x 1))), ((t 3), .inl (E.2.1, 180, .inl (x 2)))]) (wr := []) (As := []) (rest := []) (ci := 1) (q0 := 0) C (c_X1_byteAtCursor l E t (rs x 3 2 (nI (cu + 1))) L (cu + 1) hL hL2 rfl (by omega)) (gWV C kw_ml_X1_46 kw_im_X1_byteAtCursor kw_sel_X1_byteAtCursor kw_ini_X1 kw_code_X1_byteAtCursor ga_X1_byteAtCursor ⟨Nat.le_of_ble_eq_true rfl, Nat.le_of_ble_eq_true rfl⟩) rfl rfl [0, 1, 2, 3] [] [0, 1, 2, 3] rfl rfl rfl rfl (by decide) (fun _ => [((t 0), .inr (1, [.ref (t 1), .ref (t 2), .ref (t 3), .int (x 3 0), .int (x 3 1), .int (nI (cu + 1))])), ((t 1), .inl (E.2.2.1, 120, .inl (x 0))), ((t 2), .inl (E.2.2.1, 60, .inl (x 1))), ((t 3), .inl (E.2.1, 180, .inl (x 2)))]) rfl (fun _ => rfl) rfl (Nat.le_of_ble_eq_true rfl) ⟨Nat.le_of_ble_eq_true rfl, Nat.le_of_ble_eq_true rfl⟩ rfl dX1_readNumber_46 (fun r_9 _ e_10 => ?_)
      subst e_10
      refine Wd.cast (w1 := [((t 0), .inr (1, [.ref (t 1), .ref (t 2), .ref (t 3), .int (x 3 0), .int (x 3 1), .int (nI (cu + 1))])), ((t 1), .inl (E.2.2.1, 120, .inl (x 0))), ((t 2), .inl (E.2.2.1, 60, .inl (x 1))), ((t 3), .inl (E.2.1, 180, .inl (x 2)))]) (lv1 := [(5, .int 1), (4, .int ((0 + (atP (x 0) L cu)) - 48)), (3, .int (if ngP (x 0) L cu sg then 1 else 0)), (0, .ref (t 0)), (1, .int pl), (2, .int sg)]) (st1 := [.int (atP (x 0) L (cu + 1))]) rfl rfl rfl ?_
      refine x_callSI (wc := []) (wr := [((t 0), .inr (1, [.ref (t 1), .ref (t 2), .ref (t 3), .int (x 3 0), .int (x 3 1), .int (nI (cu + 1))])), ((t 1), .inl (E.2.2.1, 120, .inl (x 0))), ((t 2), .inl (E.2.2.1, 60, .inl (x 1))), ((t 3), .inl (E.2.1, 180, .inl (x 2)))]) (As := [.int (atP (x 0) L (cu + 1))]) (rest := []) C (c_X1_isDigit l E (atP (x 0) L (cu + 1)) ) (gWS C kw_ml_X1_62 kw_st_X1_isDigit kw_ini_X1 kw_code_X1_isDigit ga_X1_isDigit ⟨Nat.le_of_ble_eq_true rfl, Nat.le_of_ble_eq_true rfl⟩) [] [0, 1, 2, 3] [0, 1, 2, 3] rfl rfl rfl rfl (by decide) (fun _ => [((t 0), .inr (1, [.ref (t 1), .ref (t 2), .ref (t 3), .int (x 3 0), .int (x 3 1), .int (nI (cu + 1))])), ((t 1), .inl (E.2.2.1, 120, .inl (x 0))), ((t 2), .inl (E.2.2.1, 60, .inl (x 1))), ((t 3), .inl (E.2.1, 180, .inl (x 2)))]) rfl (fun _ => rfl) rfl (Nat.le_of_ble_eq_true rfl) ⟨Nat.le_of_ble_eq_true rfl, Nat.le_of_ble_eq_true rfl⟩ rfl dX1_readNumber_49 (fun r_11 _ e_12 => ?_)
      subst e_12
      refine x_ifB_eq (tgt := 86) C dX1_readNumber_52 (by decide) (fun c_52_2 => ?_) (fun c_52_2 => ?_)
      · refine x_aload_n C dX1_readNumber_86 3 rfl ?_
        refine x_get (ref := "RomSearchBus$CommandText") (v := .ref (t 3)) C inX1 0 2 rfl rfl (by decide) kw_fl_X1_18 rfl rfl dX1_readNumber_87 ?_
        refine x_aload_n C dX1_readNumber_90 3 rfl ?_
        refine x_get (ref := "RomSearchBus$CommandText") (v := .int (x 3 1)) C inX1 0 4 rfl rfl (by decide) kw_fl_X1_26 rfl rfl dX1_readNumber_91 ?_
        refine x_iconst (v := 3) C dX1_readNumber_94 (by decide) ?_
        refine x_imul C dX1_readNumber_95 ?_
        refine x_iload_n C dX1_readNumber_96 4 rfl ?_
        refine x_iadd C dX1_readNumber_97 ?_
        refine x_iload_n C dX1_readNumber_98 2 rfl ?_
        refine x_ifB_eq (tgt := 108) C dX1_readNumber_99 (by decide) (fun c_99 => ?_) (fun c_99 => absurd c_99 c_20)
        refine x_iload C dX1_readNumber_108 1 rfl ?_
        refine x_iastN C 3 rfl (by rw [hnc, hp, show (3 : Int32) = nI 3 from rfl, pk_mul, nI_add, Nat.mul_comm]) (by omega) (by decide) [((t 0), .inr (1, [.ref (t 1), .ref (t 2), .ref (t 3), .int (x 3 0), .int (x 3 1), .int (nI (cu + 1))])), ((t 1), .inl (E.2.2.1, 120, .inl (x 0))), ((t 2), .inl (E.2.2.1, 60, .inl (x 1))), ((t 3), .inl (E.2.1, 180, .inl (upd (x 2) (3 * nc + K) ((0 + (atP (x 0) L cu)) - 48))))] rfl dX1_readNumber_110 ?_
        refine x_iload C dX1_readNumber_111 0 rfl ?_
        refine x_if_le (tgt := 130) C dX1_readNumber_113 (by decide) (fun c_113 => absurd c_113 (by decide)) (fun c_113 => ?_)
        refine x_aload_n C dX1_readNumber_116 3 rfl ?_
        refine x_callVI (wc := [((t 0), .inr (1, [.ref (t 1), .ref (t 2), .ref (t 3), .int (x 3 0), .int (x 3 1), .int (nI (cu + 1))])), ((t 1), .inl (E.2.2.1, 120, .inl (x 0))), ((t 2), .inl (E.2.2.1, 60, .inl (x 1))), ((t 3), .inl (E.2.1, 180, .inl (upd (x 2) (3 * nc + K) ((0 + (atP (x 0) L cu)) - 48))))]) (wr := []) (As := []) (rest := []) (ci := 1) (q0 := 0) C (c_X1_byteAtCursor l E t (rs (rs x 3 2 (nI (cu + 1))) 2 (3 * nc + K) ((0 + (atP (x 0) L cu)) - 48)) L (cu + 1) hL hL2 rfl (by omega)) (gWV C kw_ml_X1_46 kw_im_X1_byteAtCursor kw_sel_X1_byteAtCursor kw_ini_X1 kw_code_X1_byteAtCursor ga_X1_byteAtCursor ⟨Nat.le_of_ble_eq_true rfl, Nat.le_of_ble_eq_true rfl⟩) rfl rfl [0, 1, 2, 3] [] [0, 1, 2, 3] rfl rfl rfl rfl (by decide) (fun _ => [((t 0), .inr (1, [.ref (t 1), .ref (t 2), .ref (t 3), .int (x 3 0), .int (x 3 1), .int (nI (cu + 1))])), ((t 1), .inl (E.2.2.1, 120, .inl (x 0))), ((t 2), .inl (E.2.2.1, 60, .inl (x 1))), ((t 3), .inl (E.2.1, 180, .inl (upd (x 2) (3 * nc + K) ((0 + (atP (x 0) L cu)) - 48))))]) rfl (fun _ => rfl) rfl (Nat.le_of_ble_eq_true rfl) ⟨Nat.le_of_ble_eq_true rfl, Nat.le_of_ble_eq_true rfl⟩ rfl dX1_readNumber_117 (fun r_13 _ e_14 => ?_)
        subst e_14
        refine Wd.cast (w1 := [((t 0), .inr (1, [.ref (t 1), .ref (t 2), .ref (t 3), .int (x 3 0), .int (x 3 1), .int (nI (cu + 1))])), ((t 1), .inl (E.2.2.1, 120, .inl (x 0))), ((t 2), .inl (E.2.2.1, 60, .inl (x 1))), ((t 3), .inl (E.2.1, 180, .inl (upd (x 2) (3 * nc + K) ((0 + (atP (x 0) L cu)) - 48))))]) (lv1 := [(5, .int 1), (4, .int ((0 + (atP (x 0) L cu)) - 48)), (3, .int (if ngP (x 0) L cu sg then 1 else 0)), (0, .ref (t 0)), (1, .int pl), (2, .int sg)]) (st1 := [.int (atP (x 0) L (cu + 1))]) rfl rfl rfl ?_
        refine x_callSI (wc := []) (wr := [((t 0), .inr (1, [.ref (t 1), .ref (t 2), .ref (t 3), .int (x 3 0), .int (x 3 1), .int (nI (cu + 1))])), ((t 1), .inl (E.2.2.1, 120, .inl (x 0))), ((t 2), .inl (E.2.2.1, 60, .inl (x 1))), ((t 3), .inl (E.2.1, 180, .inl (upd (x 2) (3 * nc + K) ((0 + (atP (x 0) L cu)) - 48))))]) (As := [.int (atP (x 0) L (cu + 1))]) (rest := []) C (c_X1_isDigit l E (atP (x 0) L (cu + 1)) ) (gWS C kw_ml_X1_62 kw_st_X1_isDigit kw_ini_X1 kw_code_X1_isDigit ga_X1_isDigit ⟨Nat.le_of_ble_eq_true rfl, Nat.le_of_ble_eq_true rfl⟩) [] [0, 1, 2, 3] [0, 1, 2, 3] rfl rfl rfl rfl (by decide) (fun _ => [((t 0), .inr (1, [.ref (t 1), .ref (t 2), .ref (t 3), .int (x 3 0), .int (x 3 1), .int (nI (cu + 1))])), ((t 1), .inl (E.2.2.1, 120, .inl (x 0))), ((t 2), .inl (E.2.2.1, 60, .inl (x 1))), ((t 3), .inl (E.2.1, 180, .inl (upd (x 2) (3 * nc + K) ((0 + (atP (x 0) L cu)) - 48))))]) rfl (fun _ => rfl) rfl (Nat.le_of_ble_eq_true rfl) ⟨Nat.le_of_ble_eq_true rfl, Nat.le_of_ble_eq_true rfl⟩ rfl dX1_readNumber_120 (fun r_15 _ e_16 => ?_)
        subst e_16
        refine x_ifB_ne (tgt := 130) C dX1_readNumber_123 (by decide) (fun c_123 => absurd c_123 c_52_2) (fun c_123 => ?_)
        refine x_iconst (v := 1) C dX1_readNumber_126 (by decide) ?_
        refine x_goto (tgt := 131) C dX1_readNumber_127 (by decide) ?_
        have e1 : nS (x 0) L cu sg = cu := by unfold nS; rw [if_neg c_20]
        have e2 : nD (x 0) L cu = 1 := by unfold nD; rw [if_pos c_52, if_neg c_52_2]
        have e3 : nVal (x 0) L cu sg = ((0 + (atP (x 0) L cu)) - 48) := by unfold nVal; rw [if_neg c_20, e1]; unfold nV; rw [if_pos c_52, if_neg c_52_2]
        have e4 : nE (x 0) L cu sg = cu + 1 := by unfold nE; rw [e1, e2]
        have e5 :  nOk (x 0) L cu sg := by
          exact ⟨by rw [e1, e2]; decide, by rw [e4]; exact c_52_2⟩
        exact x_iret C hr hlocks rfl () (by rw [if_pos e5]) (by rw [e3, e4]; exact gEq.rf _) dX1_readNumber_131
      · refine x_bipush (v := 10) C dX1_readNumber_55 (by decide) ?_
        refine x_iload C dX1_readNumber_57 1 rfl ?_
        refine x_imul C dX1_readNumber_59 ?_
        refine x_aload_n C dX1_readNumber_60 3 rfl ?_
        refine x_callVI (wc := [((t 0), .inr (1, [.ref (t 1), .ref (t 2), .ref (t 3), .int (x 3 0), .int (x 3 1), .int (nI (cu + 1))])), ((t 1), .inl (E.2.2.1, 120, .inl (x 0))), ((t 2), .inl (E.2.2.1, 60, .inl (x 1))), ((t 3), .inl (E.2.1, 180, .inl (x 2)))]) (wr := []) (As := []) (rest := [.int (10 * ((0 + (atP (x 0) L cu)) - 48))]) (ci := 1) (q0 := 0) C (c_X1_byteAtCursor l E t (rs x 3 2 (nI (cu + 1))) L (cu + 1) hL hL2 rfl (by omega)) (gWV C kw_ml_X1_46 kw_im_X1_byteAtCursor kw_sel_X1_byteAtCursor kw_ini_X1 kw_code_X1_byteAtCursor ga_X1_byteAtCursor ⟨Nat.le_of_ble_eq_true rfl, Nat.le_of_ble_eq_true rfl⟩) rfl rfl [0, 1, 2, 3] [] [0, 1, 2, 3] rfl rfl rfl rfl (by decide) (fun _ => [((t 0), .inr (1, [.ref (t 1), .ref (t 2), .ref (t 3), .int (x 3 0), .int (x 3 1), .int (nI (cu + 1))])), ((t 1), .inl (E.2.2.1, 120, .inl (x 0))), ((t 2), .inl (E.2.2.1, 60, .inl (x 1))), ((t 3), .inl (E.2.1, 180, .inl (x 2)))]) rfl (fun _ => rfl) rfl (Nat.le_of_ble_eq_true rfl) ⟨Nat.le_of_ble_eq_true rfl, Nat.le_of_ble_eq_true rfl⟩ rfl dX1_readNumber_61 (fun r_17 _ e_18 => ?_)
        subst e_18
        refine Wd.cast (w1 := [((t 0), .inr (1, [.ref (t 1), .ref (t 2), .ref (t 3), .int (x 3 0), .int (x 3 1), .int (nI (cu + 1))])), ((t 1), .inl (E.2.2.1, 120, .inl (x 0))), ((t 2), .inl (E.2.2.1, 60, .inl (x 1))), ((t 3), .inl (E.2.1, 180, .inl (x 2)))]) (lv1 := [(5, .int 1), (4, .int ((0 + (atP (x 0) L cu)) - 48)), (3, .int (if ngP (x 0) L cu sg then 1 else 0)), (0, .ref (t 0)), (1, .int pl), (2, .int sg)]) (st1 := [.int (atP (x 0) L (cu + 1)), .int (10 * ((0 + (atP (x 0) L cu)) - 48))]) rfl rfl rfl ?_
        refine x_iadd C dX1_readNumber_64 ?_
        refine x_bipush (v := 48) C dX1_readNumber_65 (by decide) ?_
        refine x_isub C dX1_readNumber_67 ?_
        refine x_istore (lv1 := [(4, .int (((10 * ((0 + (atP (x 0) L cu)) - 48)) + (atP (x 0) L (cu + 1))) - 48)), (5, .int 1), (3, .int (if ngP (x 0) L cu sg then 1 else 0)), (0, .ref (t 0)), (1, .int pl), (2, .int sg)]) C dX1_readNumber_68 (by decide) rfl ?_
        refine x_aload_n C dX1_readNumber_70 3 rfl ?_
        refine x_dup C dX1_readNumber_71 rfl ?_
        refine x_get (ref := "RomSearchBus$CommandText") (v := .int (nI (cu + 1))) C inX1 0 5 rfl rfl (by decide) kw_fl_X1_29 rfl rfl dX1_readNumber_72 ?_
        refine x_iconst (v := 1) C dX1_readNumber_75 (by decide) ?_
        refine x_iadd C dX1_readNumber_76 ?_
        refine Wd.cast (w1 := [((t 0), .inr (1, [.ref (t 1), .ref (t 2), .ref (t 3), .int (x 3 0), .int (x 3 1), .int (nI (cu + 1))])), ((t 1), .inl (E.2.2.1, 120, .inl (x 0))), ((t 2), .inl (E.2.2.1, 60, .inl (x 1))), ((t 3), .inl (E.2.1, 180, .inl (x 2)))]) (lv1 := [(4, .int (((10 * ((0 + (atP (x 0) L cu)) - 48)) + (atP (x 0) L (cu + 1))) - 48)), (5, .int 1), (3, .int (if ngP (x 0) L cu sg then 1 else 0)), (0, .ref (t 0)), (1, .int pl), (2, .int sg)]) (st1 := [.int (nI ((cu + 1) + 1)), .ref (t 0)]) rfl rfl (by rw [nI_1]) ?_
        refine x_put (ref := "RomSearchBus$CommandText") C inX1 tyX1 tyX1_ok nmX1 0 5 rfl rfl (by decide) kw_fl_X1_29 rfl rfl rfl rfl (Nat.le_of_ble_eq_true rfl) [((t 0), .inr (1, [.ref (t 1), .ref (t 2), .ref (t 3), .int (x 3 0), .int (x 3 1), .int (nI ((cu + 1) + 1))])), ((t 1), .inl (E.2.2.1, 120, .inl (x 0))), ((t 2), .inl (E.2.2.1, 60, .inl (x 1))), ((t 3), .inl (E.2.1, 180, .inl (x 2)))] rfl dX1_readNumber_77 ?_
        refine x_iinc (j := 1) (v := 2) (lv1 := [(5, .int 2), (4, .int (((10 * ((0 + (atP (x 0) L cu)) - 48)) + (atP (x 0) L (cu + 1))) - 48)), (3, .int (if ngP (x 0) L cu sg then 1 else 0)), (0, .ref (t 0)), (1, .int pl), (2, .int sg)]) C dX1_readNumber_80 rfl (by decide) (by decide) rfl ?_
        refine x_goto (tgt := 39) C dX1_readNumber_83 (by decide) ?_
        refine x_iload C dX1_readNumber_39 0 rfl ?_
        refine x_iconst (v := 3) C dX1_readNumber_41 (by decide) ?_
        refine x_icmp_ge (tgt := 86) C dX1_readNumber_42 (by decide) (fun c_42_3 => absurd c_42_3 (by decide)) (fun c_42_3 => ?_)
        refine x_aload_n C dX1_readNumber_45 3 rfl ?_
        refine x_callVI (wc := [((t 0), .inr (1, [.ref (t 1), .ref (t 2), .ref (t 3), .int (x 3 0), .int (x 3 1), .int (nI ((cu + 1) + 1))])), ((t 1), .inl (E.2.2.1, 120, .inl (x 0))), ((t 2), .inl (E.2.2.1, 60, .inl (x 1))), ((t 3), .inl (E.2.1, 180, .inl (x 2)))]) (wr := []) (As := []) (rest := []) (ci := 1) (q0 := 0) C (c_X1_byteAtCursor l E t (rs x 3 2 (nI ((cu + 1) + 1))) L ((cu + 1) + 1) hL hL2 rfl (by omega)) (gWV C kw_ml_X1_46 kw_im_X1_byteAtCursor kw_sel_X1_byteAtCursor kw_ini_X1 kw_code_X1_byteAtCursor ga_X1_byteAtCursor ⟨Nat.le_of_ble_eq_true rfl, Nat.le_of_ble_eq_true rfl⟩) rfl rfl [0, 1, 2, 3] [] [0, 1, 2, 3] rfl rfl rfl rfl (by decide) (fun _ => [((t 0), .inr (1, [.ref (t 1), .ref (t 2), .ref (t 3), .int (x 3 0), .int (x 3 1), .int (nI ((cu + 1) + 1))])), ((t 1), .inl (E.2.2.1, 120, .inl (x 0))), ((t 2), .inl (E.2.2.1, 60, .inl (x 1))), ((t 3), .inl (E.2.1, 180, .inl (x 2)))]) rfl (fun _ => rfl) rfl (Nat.le_of_ble_eq_true rfl) ⟨Nat.le_of_ble_eq_true rfl, Nat.le_of_ble_eq_true rfl⟩ rfl dX1_readNumber_46 (fun r_19 _ e_20 => ?_)
        subst e_20
        refine Wd.cast (w1 := [((t 0), .inr (1, [.ref (t 1), .ref (t 2), .ref (t 3), .int (x 3 0), .int (x 3 1), .int (nI ((cu + 1) + 1))])), ((t 1), .inl (E.2.2.1, 120, .inl (x 0))), ((t 2), .inl (E.2.2.1, 60, .inl (x 1))), ((t 3), .inl (E.2.1, 180, .inl (x 2)))]) (lv1 := [(5, .int 2), (4, .int (((10 * ((0 + (atP (x 0) L cu)) - 48)) + (atP (x 0) L (cu + 1))) - 48)), (3, .int (if ngP (x 0) L cu sg then 1 else 0)), (0, .ref (t 0)), (1, .int pl), (2, .int sg)]) (st1 := [.int (atP (x 0) L ((cu + 1) + 1))]) rfl rfl rfl ?_
        refine x_callSI (wc := []) (wr := [((t 0), .inr (1, [.ref (t 1), .ref (t 2), .ref (t 3), .int (x 3 0), .int (x 3 1), .int (nI ((cu + 1) + 1))])), ((t 1), .inl (E.2.2.1, 120, .inl (x 0))), ((t 2), .inl (E.2.2.1, 60, .inl (x 1))), ((t 3), .inl (E.2.1, 180, .inl (x 2)))]) (As := [.int (atP (x 0) L ((cu + 1) + 1))]) (rest := []) C (c_X1_isDigit l E (atP (x 0) L ((cu + 1) + 1)) ) (gWS C kw_ml_X1_62 kw_st_X1_isDigit kw_ini_X1 kw_code_X1_isDigit ga_X1_isDigit ⟨Nat.le_of_ble_eq_true rfl, Nat.le_of_ble_eq_true rfl⟩) [] [0, 1, 2, 3] [0, 1, 2, 3] rfl rfl rfl rfl (by decide) (fun _ => [((t 0), .inr (1, [.ref (t 1), .ref (t 2), .ref (t 3), .int (x 3 0), .int (x 3 1), .int (nI ((cu + 1) + 1))])), ((t 1), .inl (E.2.2.1, 120, .inl (x 0))), ((t 2), .inl (E.2.2.1, 60, .inl (x 1))), ((t 3), .inl (E.2.1, 180, .inl (x 2)))]) rfl (fun _ => rfl) rfl (Nat.le_of_ble_eq_true rfl) ⟨Nat.le_of_ble_eq_true rfl, Nat.le_of_ble_eq_true rfl⟩ rfl dX1_readNumber_49 (fun r_21 _ e_22 => ?_)
        subst e_22
        refine x_ifB_eq (tgt := 86) C dX1_readNumber_52 (by decide) (fun c_52_3 => ?_) (fun c_52_3 => ?_)
        · refine x_aload_n C dX1_readNumber_86 3 rfl ?_
          refine x_get (ref := "RomSearchBus$CommandText") (v := .ref (t 3)) C inX1 0 2 rfl rfl (by decide) kw_fl_X1_18 rfl rfl dX1_readNumber_87 ?_
          refine x_aload_n C dX1_readNumber_90 3 rfl ?_
          refine x_get (ref := "RomSearchBus$CommandText") (v := .int (x 3 1)) C inX1 0 4 rfl rfl (by decide) kw_fl_X1_26 rfl rfl dX1_readNumber_91 ?_
          refine x_iconst (v := 3) C dX1_readNumber_94 (by decide) ?_
          refine x_imul C dX1_readNumber_95 ?_
          refine x_iload_n C dX1_readNumber_96 4 rfl ?_
          refine x_iadd C dX1_readNumber_97 ?_
          refine x_iload_n C dX1_readNumber_98 2 rfl ?_
          refine x_ifB_eq (tgt := 108) C dX1_readNumber_99 (by decide) (fun c_99 => ?_) (fun c_99 => absurd c_99 c_20)
          refine x_iload C dX1_readNumber_108 1 rfl ?_
          refine x_iastN C 3 rfl (by rw [hnc, hp, show (3 : Int32) = nI 3 from rfl, pk_mul, nI_add, Nat.mul_comm]) (by omega) (by decide) [((t 0), .inr (1, [.ref (t 1), .ref (t 2), .ref (t 3), .int (x 3 0), .int (x 3 1), .int (nI ((cu + 1) + 1))])), ((t 1), .inl (E.2.2.1, 120, .inl (x 0))), ((t 2), .inl (E.2.2.1, 60, .inl (x 1))), ((t 3), .inl (E.2.1, 180, .inl (upd (x 2) (3 * nc + K) (((10 * ((0 + (atP (x 0) L cu)) - 48)) + (atP (x 0) L (cu + 1))) - 48))))] rfl dX1_readNumber_110 ?_
          refine x_iload C dX1_readNumber_111 0 rfl ?_
          refine x_if_le (tgt := 130) C dX1_readNumber_113 (by decide) (fun c_113 => absurd c_113 (by decide)) (fun c_113 => ?_)
          refine x_aload_n C dX1_readNumber_116 3 rfl ?_
          refine x_callVI (wc := [((t 0), .inr (1, [.ref (t 1), .ref (t 2), .ref (t 3), .int (x 3 0), .int (x 3 1), .int (nI ((cu + 1) + 1))])), ((t 1), .inl (E.2.2.1, 120, .inl (x 0))), ((t 2), .inl (E.2.2.1, 60, .inl (x 1))), ((t 3), .inl (E.2.1, 180, .inl (upd (x 2) (3 * nc + K) (((10 * ((0 + (atP (x 0) L cu)) - 48)) + (atP (x 0) L (cu + 1))) - 48))))]) (wr := []) (As := []) (rest := []) (ci := 1) (q0 := 0) C (c_X1_byteAtCursor l E t (rs (rs x 3 2 (nI ((cu + 1) + 1))) 2 (3 * nc + K) (((10 * ((0 + (atP (x 0) L cu)) - 48)) + (atP (x 0) L (cu + 1))) - 48)) L ((cu + 1) + 1) hL hL2 rfl (by omega)) (gWV C kw_ml_X1_46 kw_im_X1_byteAtCursor kw_sel_X1_byteAtCursor kw_ini_X1 kw_code_X1_byteAtCursor ga_X1_byteAtCursor ⟨Nat.le_of_ble_eq_true rfl, Nat.le_of_ble_eq_true rfl⟩) rfl rfl [0, 1, 2, 3] [] [0, 1, 2, 3] rfl rfl rfl rfl (by decide) (fun _ => [((t 0), .inr (1, [.ref (t 1), .ref (t 2), .ref (t 3), .int (x 3 0), .int (x 3 1), .int (nI ((cu + 1) + 1))])), ((t 1), .inl (E.2.2.1, 120, .inl (x 0))), ((t 2), .inl (E.2.2.1, 60, .inl (x 1))), ((t 3), .inl (E.2.1, 180, .inl (upd (x 2) (3 * nc + K) (((10 * ((0 + (atP (x 0) L cu)) - 48)) + (atP (x 0) L (cu + 1))) - 48))))]) rfl (fun _ => rfl) rfl (Nat.le_of_ble_eq_true rfl) ⟨Nat.le_of_ble_eq_true rfl, Nat.le_of_ble_eq_true rfl⟩ rfl dX1_readNumber_117 (fun r_23 _ e_24 => ?_)
          subst e_24
          refine Wd.cast (w1 := [((t 0), .inr (1, [.ref (t 1), .ref (t 2), .ref (t 3), .int (x 3 0), .int (x 3 1), .int (nI ((cu + 1) + 1))])), ((t 1), .inl (E.2.2.1, 120, .inl (x 0))), ((t 2), .inl (E.2.2.1, 60, .inl (x 1))), ((t 3), .inl (E.2.1, 180, .inl (upd (x 2) (3 * nc + K) (((10 * ((0 + (atP (x 0) L cu)) - 48)) + (atP (x 0) L (cu + 1))) - 48))))]) (lv1 := [(5, .int 2), (4, .int (((10 * ((0 + (atP (x 0) L cu)) - 48)) + (atP (x 0) L (cu + 1))) - 48)), (3, .int (if ngP (x 0) L cu sg then 1 else 0)), (0, .ref (t 0)), (1, .int pl), (2, .int sg)]) (st1 := [.int (atP (x 0) L ((cu + 1) + 1))]) rfl rfl rfl ?_
          refine x_callSI (wc := []) (wr := [((t 0), .inr (1, [.ref (t 1), .ref (t 2), .ref (t 3), .int (x 3 0), .int (x 3 1), .int (nI ((cu + 1) + 1))])), ((t 1), .inl (E.2.2.1, 120, .inl (x 0))), ((t 2), .inl (E.2.2.1, 60, .inl (x 1))), ((t 3), .inl (E.2.1, 180, .inl (upd (x 2) (3 * nc + K) (((10 * ((0 + (atP (x 0) L cu)) - 48)) + (atP (x 0) L (cu + 1))) - 48))))]) (As := [.int (atP (x 0) L ((cu + 1) + 1))]) (rest := []) C (c_X1_isDigit l E (atP (x 0) L ((cu + 1) + 1)) ) (gWS C kw_ml_X1_62 kw_st_X1_isDigit kw_ini_X1 kw_code_X1_isDigit ga_X1_isDigit ⟨Nat.le_of_ble_eq_true rfl, Nat.le_of_ble_eq_true rfl⟩) [] [0, 1, 2, 3] [0, 1, 2, 3] rfl rfl rfl rfl (by decide) (fun _ => [((t 0), .inr (1, [.ref (t 1), .ref (t 2), .ref (t 3), .int (x 3 0), .int (x 3 1), .int (nI ((cu + 1) + 1))])), ((t 1), .inl (E.2.2.1, 120, .inl (x 0))), ((t 2), .inl (E.2.2.1, 60, .inl (x 1))), ((t 3), .inl (E.2.1, 180, .inl (upd (x 2) (3 * nc + K) (((10 * ((0 + (atP (x 0) L cu)) - 48)) + (atP (x 0) L (cu + 1))) - 48))))]) rfl (fun _ => rfl) rfl (Nat.le_of_ble_eq_true rfl) ⟨Nat.le_of_ble_eq_true rfl, Nat.le_of_ble_eq_true rfl⟩ rfl dX1_readNumber_120 (fun r_25 _ e_26 => ?_)
          subst e_26
          refine x_ifB_ne (tgt := 130) C dX1_readNumber_123 (by decide) (fun c_123 => absurd c_123 c_52_3) (fun c_123 => ?_)
          refine x_iconst (v := 1) C dX1_readNumber_126 (by decide) ?_
          refine x_goto (tgt := 131) C dX1_readNumber_127 (by decide) ?_
          have e1 : nS (x 0) L cu sg = cu := by unfold nS; rw [if_neg c_20]
          have e2 : nD (x 0) L cu = 2 := by unfold nD; rw [if_pos c_52, if_pos c_52_2, if_neg c_52_3]
          have e3 : nVal (x 0) L cu sg = (((10 * ((0 + (atP (x 0) L cu)) - 48)) + (atP (x 0) L (cu + 1))) - 48) := by unfold nVal; rw [if_neg c_20, e1]; unfold nV; rw [if_pos c_52, if_pos c_52_2, if_neg c_52_3]
          have e4 : nE (x 0) L cu sg = cu + 2 := by unfold nE; rw [e1, e2]
          have e5 :  nOk (x 0) L cu sg := by
            exact ⟨by rw [e1, e2]; decide, by rw [e4]; exact c_52_3⟩
          exact x_iret C hr hlocks rfl () (by rw [if_pos e5]) (by rw [e3, e4]; exact gEq.rf _) dX1_readNumber_131
        · refine x_bipush (v := 10) C dX1_readNumber_55 (by decide) ?_
          refine x_iload C dX1_readNumber_57 1 rfl ?_
          refine x_imul C dX1_readNumber_59 ?_
          refine x_aload_n C dX1_readNumber_60 3 rfl ?_
          refine x_callVI (wc := [((t 0), .inr (1, [.ref (t 1), .ref (t 2), .ref (t 3), .int (x 3 0), .int (x 3 1), .int (nI ((cu + 1) + 1))])), ((t 1), .inl (E.2.2.1, 120, .inl (x 0))), ((t 2), .inl (E.2.2.1, 60, .inl (x 1))), ((t 3), .inl (E.2.1, 180, .inl (x 2)))]) (wr := []) (As := []) (rest := [.int (10 * (((10 * ((0 + (atP (x 0) L cu)) - 48)) + (atP (x 0) L (cu + 1))) - 48))]) (ci := 1) (q0 := 0) C (c_X1_byteAtCursor l E t (rs x 3 2 (nI ((cu + 1) + 1))) L ((cu + 1) + 1) hL hL2 rfl (by omega)) (gWV C kw_ml_X1_46 kw_im_X1_byteAtCursor kw_sel_X1_byteAtCursor kw_ini_X1 kw_code_X1_byteAtCursor ga_X1_byteAtCursor ⟨Nat.le_of_ble_eq_true rfl, Nat.le_of_ble_eq_true rfl⟩) rfl rfl [0, 1, 2, 3] [] [0, 1, 2, 3] rfl rfl rfl rfl (by decide) (fun _ => [((t 0), .inr (1, [.ref (t 1), .ref (t 2), .ref (t 3), .int (x 3 0), .int (x 3 1), .int (nI ((cu + 1) + 1))])), ((t 1), .inl (E.2.2.1, 120, .inl (x 0))), ((t 2), .inl (E.2.2.1, 60, .inl (x 1))), ((t 3), .inl (E.2.1, 180, .inl (x 2)))]) rfl (fun _ => rfl) rfl (Nat.le_of_ble_eq_true rfl) ⟨Nat.le_of_ble_eq_true rfl, Nat.le_of_ble_eq_true rfl⟩ rfl dX1_readNumber_61 (fun r_27 _ e_28 => ?_)
          subst e_28
          refine Wd.cast (w1 := [((t 0), .inr (1, [.ref (t 1), .ref (t 2), .ref (t 3), .int (x 3 0), .int (x 3 1), .int (nI ((cu + 1) + 1))])), ((t 1), .inl (E.2.2.1, 120, .inl (x 0))), ((t 2), .inl (E.2.2.1, 60, .inl (x 1))), ((t 3), .inl (E.2.1, 180, .inl (x 2)))]) (lv1 := [(5, .int 2), (4, .int (((10 * ((0 + (atP (x 0) L cu)) - 48)) + (atP (x 0) L (cu + 1))) - 48)), (3, .int (if ngP (x 0) L cu sg then 1 else 0)), (0, .ref (t 0)), (1, .int pl), (2, .int sg)]) (st1 := [.int (atP (x 0) L ((cu + 1) + 1)), .int (10 * (((10 * ((0 + (atP (x 0) L cu)) - 48)) + (atP (x 0) L (cu + 1))) - 48))]) rfl rfl rfl ?_
          refine x_iadd C dX1_readNumber_64 ?_
          refine x_bipush (v := 48) C dX1_readNumber_65 (by decide) ?_
          refine x_isub C dX1_readNumber_67 ?_
          refine x_istore (lv1 := [(4, .int (((10 * (((10 * ((0 + (atP (x 0) L cu)) - 48)) + (atP (x 0) L (cu + 1))) - 48)) + (atP (x 0) L ((cu + 1) + 1))) - 48)), (5, .int 2), (3, .int (if ngP (x 0) L cu sg then 1 else 0)), (0, .ref (t 0)), (1, .int pl), (2, .int sg)]) C dX1_readNumber_68 (by decide) rfl ?_
          refine x_aload_n C dX1_readNumber_70 3 rfl ?_
          refine x_dup C dX1_readNumber_71 rfl ?_
          refine x_get (ref := "RomSearchBus$CommandText") (v := .int (nI ((cu + 1) + 1))) C inX1 0 5 rfl rfl (by decide) kw_fl_X1_29 rfl rfl dX1_readNumber_72 ?_
          refine x_iconst (v := 1) C dX1_readNumber_75 (by decide) ?_
          refine x_iadd C dX1_readNumber_76 ?_
          refine Wd.cast (w1 := [((t 0), .inr (1, [.ref (t 1), .ref (t 2), .ref (t 3), .int (x 3 0), .int (x 3 1), .int (nI ((cu + 1) + 1))])), ((t 1), .inl (E.2.2.1, 120, .inl (x 0))), ((t 2), .inl (E.2.2.1, 60, .inl (x 1))), ((t 3), .inl (E.2.1, 180, .inl (x 2)))]) (lv1 := [(4, .int (((10 * (((10 * ((0 + (atP (x 0) L cu)) - 48)) + (atP (x 0) L (cu + 1))) - 48)) + (atP (x 0) L ((cu + 1) + 1))) - 48)), (5, .int 2), (3, .int (if ngP (x 0) L cu sg then 1 else 0)), (0, .ref (t 0)), (1, .int pl), (2, .int sg)]) (st1 := [.int (nI (((cu + 1) + 1) + 1)), .ref (t 0)]) rfl rfl (by rw [nI_1]) ?_
          refine x_put (ref := "RomSearchBus$CommandText") C inX1 tyX1 tyX1_ok nmX1 0 5 rfl rfl (by decide) kw_fl_X1_29 rfl rfl rfl rfl (Nat.le_of_ble_eq_true rfl) [((t 0), .inr (1, [.ref (t 1), .ref (t 2), .ref (t 3), .int (x 3 0), .int (x 3 1), .int (nI (((cu + 1) + 1) + 1))])), ((t 1), .inl (E.2.2.1, 120, .inl (x 0))), ((t 2), .inl (E.2.2.1, 60, .inl (x 1))), ((t 3), .inl (E.2.1, 180, .inl (x 2)))] rfl dX1_readNumber_77 ?_
          refine x_iinc (j := 1) (v := 3) (lv1 := [(5, .int 3), (4, .int (((10 * (((10 * ((0 + (atP (x 0) L cu)) - 48)) + (atP (x 0) L (cu + 1))) - 48)) + (atP (x 0) L ((cu + 1) + 1))) - 48)), (3, .int (if ngP (x 0) L cu sg then 1 else 0)), (0, .ref (t 0)), (1, .int pl), (2, .int sg)]) C dX1_readNumber_80 rfl (by decide) (by decide) rfl ?_
          refine x_goto (tgt := 39) C dX1_readNumber_83 (by decide) ?_
          refine x_iload C dX1_readNumber_39 0 rfl ?_
          refine x_iconst (v := 3) C dX1_readNumber_41 (by decide) ?_
          refine x_icmp_ge (tgt := 86) C dX1_readNumber_42 (by decide) (fun c_42_4 => ?_) (fun c_42_4 => absurd c_42_4 (by decide))
          refine x_aload_n C dX1_readNumber_86 3 rfl ?_
          refine x_get (ref := "RomSearchBus$CommandText") (v := .ref (t 3)) C inX1 0 2 rfl rfl (by decide) kw_fl_X1_18 rfl rfl dX1_readNumber_87 ?_
          refine x_aload_n C dX1_readNumber_90 3 rfl ?_
          refine x_get (ref := "RomSearchBus$CommandText") (v := .int (x 3 1)) C inX1 0 4 rfl rfl (by decide) kw_fl_X1_26 rfl rfl dX1_readNumber_91 ?_
          refine x_iconst (v := 3) C dX1_readNumber_94 (by decide) ?_
          refine x_imul C dX1_readNumber_95 ?_
          refine x_iload_n C dX1_readNumber_96 4 rfl ?_
          refine x_iadd C dX1_readNumber_97 ?_
          refine x_iload_n C dX1_readNumber_98 2 rfl ?_
          refine x_ifB_eq (tgt := 108) C dX1_readNumber_99 (by decide) (fun c_99 => ?_) (fun c_99 => absurd c_99 c_20)
          refine x_iload C dX1_readNumber_108 1 rfl ?_
          refine x_iastN C 3 rfl (by rw [hnc, hp, show (3 : Int32) = nI 3 from rfl, pk_mul, nI_add, Nat.mul_comm]) (by omega) (by decide) [((t 0), .inr (1, [.ref (t 1), .ref (t 2), .ref (t 3), .int (x 3 0), .int (x 3 1), .int (nI (((cu + 1) + 1) + 1))])), ((t 1), .inl (E.2.2.1, 120, .inl (x 0))), ((t 2), .inl (E.2.2.1, 60, .inl (x 1))), ((t 3), .inl (E.2.1, 180, .inl (upd (x 2) (3 * nc + K) (((10 * (((10 * ((0 + (atP (x 0) L cu)) - 48)) + (atP (x 0) L (cu + 1))) - 48)) + (atP (x 0) L ((cu + 1) + 1))) - 48))))] rfl dX1_readNumber_110 ?_
          refine x_iload C dX1_readNumber_111 0 rfl ?_
          refine x_if_le (tgt := 130) C dX1_readNumber_113 (by decide) (fun c_113 => absurd c_113 (by decide)) (fun c_113 => ?_)
          refine x_aload_n C dX1_readNumber_116 3 rfl ?_
          refine x_callVI (wc := [((t 0), .inr (1, [.ref (t 1), .ref (t 2), .ref (t 3), .int (x 3 0), .int (x 3 1), .int (nI (((cu + 1) + 1) + 1))])), ((t 1), .inl (E.2.2.1, 120, .inl (x 0))), ((t 2), .inl (E.2.2.1, 60, .inl (x 1))), ((t 3), .inl (E.2.1, 180, .inl (upd (x 2) (3 * nc + K) (((10 * (((10 * ((0 + (atP (x 0) L cu)) - 48)) + (atP (x 0) L (cu + 1))) - 48)) + (atP (x 0) L ((cu + 1) + 1))) - 48))))]) (wr := []) (As := []) (rest := []) (ci := 1) (q0 := 0) C (c_X1_byteAtCursor l E t (rs (rs x 3 2 (nI (((cu + 1) + 1) + 1))) 2 (3 * nc + K) (((10 * (((10 * ((0 + (atP (x 0) L cu)) - 48)) + (atP (x 0) L (cu + 1))) - 48)) + (atP (x 0) L ((cu + 1) + 1))) - 48)) L (((cu + 1) + 1) + 1) hL hL2 rfl (by omega)) (gWV C kw_ml_X1_46 kw_im_X1_byteAtCursor kw_sel_X1_byteAtCursor kw_ini_X1 kw_code_X1_byteAtCursor ga_X1_byteAtCursor ⟨Nat.le_of_ble_eq_true rfl, Nat.le_of_ble_eq_true rfl⟩) rfl rfl [0, 1, 2, 3] [] [0, 1, 2, 3] rfl rfl rfl rfl (by decide) (fun _ => [((t 0), .inr (1, [.ref (t 1), .ref (t 2), .ref (t 3), .int (x 3 0), .int (x 3 1), .int (nI (((cu + 1) + 1) + 1))])), ((t 1), .inl (E.2.2.1, 120, .inl (x 0))), ((t 2), .inl (E.2.2.1, 60, .inl (x 1))), ((t 3), .inl (E.2.1, 180, .inl (upd (x 2) (3 * nc + K) (((10 * (((10 * ((0 + (atP (x 0) L cu)) - 48)) + (atP (x 0) L (cu + 1))) - 48)) + (atP (x 0) L ((cu + 1) + 1))) - 48))))]) rfl (fun _ => rfl) rfl (Nat.le_of_ble_eq_true rfl) ⟨Nat.le_of_ble_eq_true rfl, Nat.le_of_ble_eq_true rfl⟩ rfl dX1_readNumber_117 (fun r_29 _ e_30 => ?_)
          subst e_30
          refine Wd.cast (w1 := [((t 0), .inr (1, [.ref (t 1), .ref (t 2), .ref (t 3), .int (x 3 0), .int (x 3 1), .int (nI (((cu + 1) + 1) + 1))])), ((t 1), .inl (E.2.2.1, 120, .inl (x 0))), ((t 2), .inl (E.2.2.1, 60, .inl (x 1))), ((t 3), .inl (E.2.1, 180, .inl (upd (x 2) (3 * nc + K) (((10 * (((10 * ((0 + (atP (x 0) L cu)) - 48)) + (atP (x 0) L (cu + 1))) - 48)) + (atP (x 0) L ((cu + 1) + 1))) - 48))))]) (lv1 := [(5, .int 3), (4, .int (((10 * (((10 * ((0 + (atP (x 0) L cu)) - 48)) + (atP (x 0) L (cu + 1))) - 48)) + (atP (x 0) L ((cu + 1) + 1))) - 48)), (3, .int (if ngP (x 0) L cu sg then 1 else 0)), (0, .ref (t 0)), (1, .int pl), (2, .int sg)]) (st1 := [.int (atP (x 0) L (((cu + 1) + 1) + 1))]) rfl rfl rfl ?_
          refine x_callSI (wc := []) (wr := [((t 0), .inr (1, [.ref (t 1), .ref (t 2), .ref (t 3), .int (x 3 0), .int (x 3 1), .int (nI (((cu + 1) + 1) + 1))])), ((t 1), .inl (E.2.2.1, 120, .inl (x 0))), ((t 2), .inl (E.2.2.1, 60, .inl (x 1))), ((t 3), .inl (E.2.1, 180, .inl (upd (x 2) (3 * nc + K) (((10 * (((10 * ((0 + (atP (x 0) L cu)) - 48)) + (atP (x 0) L (cu + 1))) - 48)) + (atP (x 0) L ((cu + 1) + 1))) - 48))))]) (As := [.int (atP (x 0) L (((cu + 1) + 1) + 1))]) (rest := []) C (c_X1_isDigit l E (atP (x 0) L (((cu + 1) + 1) + 1)) ) (gWS C kw_ml_X1_62 kw_st_X1_isDigit kw_ini_X1 kw_code_X1_isDigit ga_X1_isDigit ⟨Nat.le_of_ble_eq_true rfl, Nat.le_of_ble_eq_true rfl⟩) [] [0, 1, 2, 3] [0, 1, 2, 3] rfl rfl rfl rfl (by decide) (fun _ => [((t 0), .inr (1, [.ref (t 1), .ref (t 2), .ref (t 3), .int (x 3 0), .int (x 3 1), .int (nI (((cu + 1) + 1) + 1))])), ((t 1), .inl (E.2.2.1, 120, .inl (x 0))), ((t 2), .inl (E.2.2.1, 60, .inl (x 1))), ((t 3), .inl (E.2.1, 180, .inl (upd (x 2) (3 * nc + K) (((10 * (((10 * ((0 + (atP (x 0) L cu)) - 48)) + (atP (x 0) L (cu + 1))) - 48)) + (atP (x 0) L ((cu + 1) + 1))) - 48))))]) rfl (fun _ => rfl) rfl (Nat.le_of_ble_eq_true rfl) ⟨Nat.le_of_ble_eq_true rfl, Nat.le_of_ble_eq_true rfl⟩ rfl dX1_readNumber_120 (fun r_31 _ e_32 => ?_)
          subst e_32
          refine x_ifB_ne (tgt := 130) C dX1_readNumber_123 (by decide) (fun c_123 => ?_) (fun c_123 => ?_)
          · refine x_iconst (v := 0) C dX1_readNumber_130 (by decide) ?_
            have e1 : nS (x 0) L cu sg = cu := by unfold nS; rw [if_neg c_20]
            have e2 : nD (x 0) L cu = 3 := by unfold nD; rw [if_pos c_52, if_pos c_52_2, if_pos c_52_3]
            have e3 : nVal (x 0) L cu sg = (((10 * (((10 * ((0 + (atP (x 0) L cu)) - 48)) + (atP (x 0) L (cu + 1))) - 48)) + (atP (x 0) L ((cu + 1) + 1))) - 48) := by unfold nVal; rw [if_neg c_20, e1]; unfold nV; rw [if_pos c_52, if_pos c_52_2, if_pos c_52_3]
            have e4 : nE (x 0) L cu sg = cu + 3 := by unfold nE; rw [e1, e2]
            have e5 : ¬ nOk (x 0) L cu sg := by
              intro z; have z1 := z.2; rw [e4] at z1; exact z1 c_123
            exact x_iret C hr hlocks rfl () (by rw [if_neg e5]) (by rw [e3, e4]; exact gEq.rf _) dX1_readNumber_131
          · refine x_iconst (v := 1) C dX1_readNumber_126 (by decide) ?_
            refine x_goto (tgt := 131) C dX1_readNumber_127 (by decide) ?_
            have e1 : nS (x 0) L cu sg = cu := by unfold nS; rw [if_neg c_20]
            have e2 : nD (x 0) L cu = 3 := by unfold nD; rw [if_pos c_52, if_pos c_52_2, if_pos c_52_3]
            have e3 : nVal (x 0) L cu sg = (((10 * (((10 * ((0 + (atP (x 0) L cu)) - 48)) + (atP (x 0) L (cu + 1))) - 48)) + (atP (x 0) L ((cu + 1) + 1))) - 48) := by unfold nVal; rw [if_neg c_20, e1]; unfold nV; rw [if_pos c_52, if_pos c_52_2, if_pos c_52_3]
            have e4 : nE (x 0) L cu sg = cu + 3 := by unfold nE; rw [e1, e2]
            have e5 :  nOk (x 0) L cu sg := by
              exact ⟨by rw [e1, e2]; decide, by rw [e4]; exact c_123⟩
            exact x_iret C hr hlocks rfl () (by rw [if_pos e5]) (by rw [e3, e4]; exact gEq.rf _) dX1_readNumber_131
  · refine x_aload_n C dX1_readNumber_23 1 rfl ?_
    refine x_dup C dX1_readNumber_24 rfl ?_
    refine x_get (ref := "RomSearchBus$CommandText") (v := .int (nI cu)) C inX1 0 5 rfl rfl (by decide) kw_fl_X1_29 rfl rfl dX1_readNumber_25 ?_
    refine x_iconst (v := 1) C dX1_readNumber_28 (by decide) ?_
    refine x_iadd C dX1_readNumber_29 ?_
    refine Wd.cast (w1 := [((t 0), .inr (1, [.ref (t 1), .ref (t 2), .ref (t 3), .int (x 3 0), .int (x 3 1), .int (nI cu)])), ((t 1), .inl (E.2.2.1, 120, .inl (x 0))), ((t 2), .inl (E.2.2.1, 60, .inl (x 1))), ((t 3), .inl (E.2.1, 180, .inl (x 2)))]) (lv1 := [(3, .int (if ngP (x 0) L cu sg then 1 else 0)), (0, .ref (t 0)), (1, .int pl), (2, .int sg)]) (st1 := [.int (nI (cu + 1)), .ref (t 0)]) rfl rfl (by rw [nI_1]) ?_
    refine x_put (ref := "RomSearchBus$CommandText") C inX1 tyX1 tyX1_ok nmX1 0 5 rfl rfl (by decide) kw_fl_X1_29 rfl rfl rfl rfl (Nat.le_of_ble_eq_true rfl) [((t 0), .inr (1, [.ref (t 1), .ref (t 2), .ref (t 3), .int (x 3 0), .int (x 3 1), .int (nI (cu + 1))])), ((t 1), .inl (E.2.2.1, 120, .inl (x 0))), ((t 2), .inl (E.2.2.1, 60, .inl (x 1))), ((t 3), .inl (E.2.1, 180, .inl (x 2)))] rfl dX1_readNumber_30 ?_
    refine x_iconst (v := 0) C dX1_readNumber_33 (by decide) ?_
    refine x_istore (lv1 := [(4, .int 0), (3, .int (if ngP (x 0) L cu sg then 1 else 0)), (0, .ref (t 0)), (1, .int pl), (2, .int sg)]) C dX1_readNumber_34 (by decide) rfl ?_
    refine x_iconst (v := 0) C dX1_readNumber_36 (by decide) ?_
    refine x_istore (lv1 := [(5, .int 0), (4, .int 0), (3, .int (if ngP (x 0) L cu sg then 1 else 0)), (0, .ref (t 0)), (1, .int pl), (2, .int sg)]) C dX1_readNumber_37 (by decide) rfl ?_
    refine x_iload C dX1_readNumber_39 0 rfl ?_
    refine x_iconst (v := 3) C dX1_readNumber_41 (by decide) ?_
    refine x_icmp_ge (tgt := 86) C dX1_readNumber_42 (by decide) (fun c_42 => absurd c_42 (by decide)) (fun c_42 => ?_)
    refine x_aload_n C dX1_readNumber_45 3 rfl ?_
    refine x_callVI (wc := [((t 0), .inr (1, [.ref (t 1), .ref (t 2), .ref (t 3), .int (x 3 0), .int (x 3 1), .int (nI (cu + 1))])), ((t 1), .inl (E.2.2.1, 120, .inl (x 0))), ((t 2), .inl (E.2.2.1, 60, .inl (x 1))), ((t 3), .inl (E.2.1, 180, .inl (x 2)))]) (wr := []) (As := []) (rest := []) (ci := 1) (q0 := 0) C (c_X1_byteAtCursor l E t (rs x 3 2 (nI (cu + 1))) L (cu + 1) hL hL2 rfl (by omega)) (gWV C kw_ml_X1_46 kw_im_X1_byteAtCursor kw_sel_X1_byteAtCursor kw_ini_X1 kw_code_X1_byteAtCursor ga_X1_byteAtCursor ⟨Nat.le_of_ble_eq_true rfl, Nat.le_of_ble_eq_true rfl⟩) rfl rfl [0, 1, 2, 3] [] [0, 1, 2, 3] rfl rfl rfl rfl (by decide) (fun _ => [((t 0), .inr (1, [.ref (t 1), .ref (t 2), .ref (t 3), .int (x 3 0), .int (x 3 1), .int (nI (cu + 1))])), ((t 1), .inl (E.2.2.1, 120, .inl (x 0))), ((t 2), .inl (E.2.2.1, 60, .inl (x 1))), ((t 3), .inl (E.2.1, 180, .inl (x 2)))]) rfl (fun _ => rfl) rfl (Nat.le_of_ble_eq_true rfl) ⟨Nat.le_of_ble_eq_true rfl, Nat.le_of_ble_eq_true rfl⟩ rfl dX1_readNumber_46 (fun r_33 _ e_34 => ?_)
    subst e_34
    refine Wd.cast (w1 := [((t 0), .inr (1, [.ref (t 1), .ref (t 2), .ref (t 3), .int (x 3 0), .int (x 3 1), .int (nI (cu + 1))])), ((t 1), .inl (E.2.2.1, 120, .inl (x 0))), ((t 2), .inl (E.2.2.1, 60, .inl (x 1))), ((t 3), .inl (E.2.1, 180, .inl (x 2)))]) (lv1 := [(5, .int 0), (4, .int 0), (3, .int (if ngP (x 0) L cu sg then 1 else 0)), (0, .ref (t 0)), (1, .int pl), (2, .int sg)]) (st1 := [.int (atP (x 0) L (cu + 1))]) rfl rfl rfl ?_
    refine x_callSI (wc := []) (wr := [((t 0), .inr (1, [.ref (t 1), .ref (t 2), .ref (t 3), .int (x 3 0), .int (x 3 1), .int (nI (cu + 1))])), ((t 1), .inl (E.2.2.1, 120, .inl (x 0))), ((t 2), .inl (E.2.2.1, 60, .inl (x 1))), ((t 3), .inl (E.2.1, 180, .inl (x 2)))]) (As := [.int (atP (x 0) L (cu + 1))]) (rest := []) C (c_X1_isDigit l E (atP (x 0) L (cu + 1)) ) (gWS C kw_ml_X1_62 kw_st_X1_isDigit kw_ini_X1 kw_code_X1_isDigit ga_X1_isDigit ⟨Nat.le_of_ble_eq_true rfl, Nat.le_of_ble_eq_true rfl⟩) [] [0, 1, 2, 3] [0, 1, 2, 3] rfl rfl rfl rfl (by decide) (fun _ => [((t 0), .inr (1, [.ref (t 1), .ref (t 2), .ref (t 3), .int (x 3 0), .int (x 3 1), .int (nI (cu + 1))])), ((t 1), .inl (E.2.2.1, 120, .inl (x 0))), ((t 2), .inl (E.2.2.1, 60, .inl (x 1))), ((t 3), .inl (E.2.1, 180, .inl (x 2)))]) rfl (fun _ => rfl) rfl (Nat.le_of_ble_eq_true rfl) ⟨Nat.le_of_ble_eq_true rfl, Nat.le_of_ble_eq_true rfl⟩ rfl dX1_readNumber_49 (fun r_35 _ e_36 => ?_)
    subst e_36
    refine x_ifB_eq (tgt := 86) C dX1_readNumber_52 (by decide) (fun c_52 => ?_) (fun c_52 => ?_)
    · refine x_aload_n C dX1_readNumber_86 3 rfl ?_
      refine x_get (ref := "RomSearchBus$CommandText") (v := .ref (t 3)) C inX1 0 2 rfl rfl (by decide) kw_fl_X1_18 rfl rfl dX1_readNumber_87 ?_
      refine x_aload_n C dX1_readNumber_90 3 rfl ?_
      refine x_get (ref := "RomSearchBus$CommandText") (v := .int (x 3 1)) C inX1 0 4 rfl rfl (by decide) kw_fl_X1_26 rfl rfl dX1_readNumber_91 ?_
      refine x_iconst (v := 3) C dX1_readNumber_94 (by decide) ?_
      refine x_imul C dX1_readNumber_95 ?_
      refine x_iload_n C dX1_readNumber_96 4 rfl ?_
      refine x_iadd C dX1_readNumber_97 ?_
      refine x_iload_n C dX1_readNumber_98 2 rfl ?_
      refine x_ifB_eq (tgt := 108) C dX1_readNumber_99 (by decide) (fun c_99 => absurd c_20 c_99) (fun c_99 => ?_)
      refine x_iload C dX1_readNumber_102 1 rfl ?_
      refine x_ineg C dX1_readNumber_104 ?_
      refine x_goto (tgt := 110) C dX1_readNumber_105 (by decide) ?_
      refine x_iastN C 3 rfl (by rw [hnc, hp, show (3 : Int32) = nI 3 from rfl, pk_mul, nI_add, Nat.mul_comm]) (by omega) (by decide) [((t 0), .inr (1, [.ref (t 1), .ref (t 2), .ref (t 3), .int (x 3 0), .int (x 3 1), .int (nI (cu + 1))])), ((t 1), .inl (E.2.2.1, 120, .inl (x 0))), ((t 2), .inl (E.2.2.1, 60, .inl (x 1))), ((t 3), .inl (E.2.1, 180, .inl (upd (x 2) (3 * nc + K) (0 - 0))))] rfl dX1_readNumber_110 ?_
      refine x_iload C dX1_readNumber_111 0 rfl ?_
      refine x_if_le (tgt := 130) C dX1_readNumber_113 (by decide) (fun c_113 => ?_) (fun c_113 => absurd c_113 (by decide))
      refine x_iconst (v := 0) C dX1_readNumber_130 (by decide) ?_
      have e1 : nS (x 0) L cu sg = cu + 1 := by unfold nS; rw [if_pos c_20]
      have e2 : nD (x 0) L (cu + 1) = 0 := by unfold nD; rw [if_neg c_52]
      have e3 : nVal (x 0) L cu sg = (0 - 0) := by unfold nVal; rw [if_pos c_20, e1]; unfold nV; rw [if_neg c_52]
      have e4 : nE (x 0) L cu sg = (cu + 1) + 0 := by unfold nE; rw [e1, e2]
      have e5 : ¬ nOk (x 0) L cu sg := by
        intro z; have z1 := z.1; rw [e1, e2] at z1; exact absurd z1 (by decide)
      exact x_iret C hr hlocks rfl () (by rw [if_neg e5]) (by rw [e3, e4]; exact gEq.rf _) dX1_readNumber_131
    · refine x_bipush (v := 10) C dX1_readNumber_55 (by decide) ?_
      refine x_iload C dX1_readNumber_57 1 rfl ?_
      refine x_imul C dX1_readNumber_59 ?_
      refine Wd.cast (w1 := [((t 0), .inr (1, [.ref (t 1), .ref (t 2), .ref (t 3), .int (x 3 0), .int (x 3 1), .int (nI (cu + 1))])), ((t 1), .inl (E.2.2.1, 120, .inl (x 0))), ((t 2), .inl (E.2.2.1, 60, .inl (x 1))), ((t 3), .inl (E.2.1, 180, .inl (x 2)))]) (lv1 := [(5, .int 0), (4, .int 0), (3, .int (if ngP (x 0) L cu sg then 1 else 0)), (0, .ref (t 0)), (1, .int pl), (2, .int sg)]) (st1 := [.int 0]) rfl rfl rfl ?_
      refine x_aload_n C dX1_readNumber_60 3 rfl ?_
      refine x_callVI (wc := [((t 0), .inr (1, [.ref (t 1), .ref (t 2), .ref (t 3), .int (x 3 0), .int (x 3 1), .int (nI (cu + 1))])), ((t 1), .inl (E.2.2.1, 120, .inl (x 0))), ((t 2), .inl (E.2.2.1, 60, .inl (x 1))), ((t 3), .inl (E.2.1, 180, .inl (x 2)))]) (wr := []) (As := []) (rest := [.int 0]) (ci := 1) (q0 := 0) C (c_X1_byteAtCursor l E t (rs x 3 2 (nI (cu + 1))) L (cu + 1) hL hL2 rfl (by omega)) (gWV C kw_ml_X1_46 kw_im_X1_byteAtCursor kw_sel_X1_byteAtCursor kw_ini_X1 kw_code_X1_byteAtCursor ga_X1_byteAtCursor ⟨Nat.le_of_ble_eq_true rfl, Nat.le_of_ble_eq_true rfl⟩) rfl rfl [0, 1, 2, 3] [] [0, 1, 2, 3] rfl rfl rfl rfl (by decide) (fun _ => [((t 0), .inr (1, [.ref (t 1), .ref (t 2), .ref (t 3), .int (x 3 0), .int (x 3 1), .int (nI (cu + 1))])), ((t 1), .inl (E.2.2.1, 120, .inl (x 0))), ((t 2), .inl (E.2.2.1, 60, .inl (x 1))), ((t 3), .inl (E.2.1, 180, .inl (x 2)))]) rfl (fun _ => rfl) rfl (Nat.le_of_ble_eq_true rfl) ⟨Nat.le_of_ble_eq_true rfl, Nat.le_of_ble_eq_true rfl⟩ rfl dX1_readNumber_61 (fun r_37 _ e_38 => ?_)
      subst e_38
      refine Wd.cast (w1 := [((t 0), .inr (1, [.ref (t 1), .ref (t 2), .ref (t 3), .int (x 3 0), .int (x 3 1), .int (nI (cu + 1))])), ((t 1), .inl (E.2.2.1, 120, .inl (x 0))), ((t 2), .inl (E.2.2.1, 60, .inl (x 1))), ((t 3), .inl (E.2.1, 180, .inl (x 2)))]) (lv1 := [(5, .int 0), (4, .int 0), (3, .int (if ngP (x 0) L cu sg then 1 else 0)), (0, .ref (t 0)), (1, .int pl), (2, .int sg)]) (st1 := [.int (atP (x 0) L (cu + 1)), .int 0]) rfl rfl rfl ?_
      refine x_iadd C dX1_readNumber_64 ?_
      refine x_bipush (v := 48) C dX1_readNumber_65 (by decide) ?_
      refine x_isub C dX1_readNumber_67 ?_
      refine x_istore (lv1 := [(4, .int ((0 + (atP (x 0) L (cu + 1))) - 48)), (5, .int 0), (3, .int (if ngP (x 0) L cu sg then 1 else 0)), (0, .ref (t 0)), (1, .int pl), (2, .int sg)]) C dX1_readNumber_68 (by decide) rfl ?_
      refine x_aload_n C dX1_readNumber_70 3 rfl ?_
      refine x_dup C dX1_readNumber_71 rfl ?_
      refine x_get (ref := "RomSearchBus$CommandText") (v := .int (nI (cu + 1))) C inX1 0 5 rfl rfl (by decide) kw_fl_X1_29 rfl rfl dX1_readNumber_72 ?_
      refine x_iconst (v := 1) C dX1_readNumber_75 (by decide) ?_
      refine x_iadd C dX1_readNumber_76 ?_
      refine Wd.cast (w1 := [((t 0), .inr (1, [.ref (t 1), .ref (t 2), .ref (t 3), .int (x 3 0), .int (x 3 1), .int (nI (cu + 1))])), ((t 1), .inl (E.2.2.1, 120, .inl (x 0))), ((t 2), .inl (E.2.2.1, 60, .inl (x 1))), ((t 3), .inl (E.2.1, 180, .inl (x 2)))]) (lv1 := [(4, .int ((0 + (atP (x 0) L (cu + 1))) - 48)), (5, .int 0), (3, .int (if ngP (x 0) L cu sg then 1 else 0)), (0, .ref (t 0)), (1, .int pl), (2, .int sg)]) (st1 := [.int (nI ((cu + 1) + 1)), .ref (t 0)]) rfl rfl (by rw [nI_1]) ?_
      refine x_put (ref := "RomSearchBus$CommandText") C inX1 tyX1 tyX1_ok nmX1 0 5 rfl rfl (by decide) kw_fl_X1_29 rfl rfl rfl rfl (Nat.le_of_ble_eq_true rfl) [((t 0), .inr (1, [.ref (t 1), .ref (t 2), .ref (t 3), .int (x 3 0), .int (x 3 1), .int (nI ((cu + 1) + 1))])), ((t 1), .inl (E.2.2.1, 120, .inl (x 0))), ((t 2), .inl (E.2.2.1, 60, .inl (x 1))), ((t 3), .inl (E.2.1, 180, .inl (x 2)))] rfl dX1_readNumber_77 ?_
      refine x_iinc (j := 1) (v := 1) (lv1 := [(5, .int 1), (4, .int ((0 + (atP (x 0) L (cu + 1))) - 48)), (3, .int (if ngP (x 0) L cu sg then 1 else 0)), (0, .ref (t 0)), (1, .int pl), (2, .int sg)]) C dX1_readNumber_80 rfl (by decide) (by decide) rfl ?_
      refine x_goto (tgt := 39) C dX1_readNumber_83 (by decide) ?_
      refine x_iload C dX1_readNumber_39 0 rfl ?_
      refine x_iconst (v := 3) C dX1_readNumber_41 (by decide) ?_
      refine x_icmp_ge (tgt := 86) C dX1_readNumber_42 (by decide) (fun c_42_2 => absurd c_42_2 (by decide)) (fun c_42_2 => ?_)
      refine x_aload_n C dX1_readNumber_45 3 rfl ?_
      refine x_callVI (wc := [((t 0), .inr (1, [.ref (t 1), .ref (t 2), .ref (t 3), .int (x 3 0), .int (x 3 1), .int (nI ((cu + 1) + 1))])), ((t 1), .inl (E.2.2.1, 120, .inl (x 0))), ((t 2), .inl (E.2.2.1, 60, .inl (x 1))), ((t 3), .inl (E.2.1, 180, .inl (x 2)))]) (wr := []) (As := []) (rest := []) (ci := 1) (q0 := 0) C (c_X1_byteAtCursor l E t (rs x 3 2 (nI ((cu + 1) + 1))) L ((cu + 1) + 1) hL hL2 rfl (by omega)) (gWV C kw_ml_X1_46 kw_im_X1_byteAtCursor kw_sel_X1_byteAtCursor kw_ini_X1 kw_code_X1_byteAtCursor ga_X1_byteAtCursor ⟨Nat.le_of_ble_eq_true rfl, Nat.le_of_ble_eq_true rfl⟩) rfl rfl [0, 1, 2, 3] [] [0, 1, 2, 3] rfl rfl rfl rfl (by decide) (fun _ => [((t 0), .inr (1, [.ref (t 1), .ref (t 2), .ref (t 3), .int (x 3 0), .int (x 3 1), .int (nI ((cu + 1) + 1))])), ((t 1), .inl (E.2.2.1, 120, .inl (x 0))), ((t 2), .inl (E.2.2.1, 60, .inl (x 1))), ((t 3), .inl (E.2.1, 180, .inl (x 2)))]) rfl (fun _ => rfl) rfl (Nat.le_of_ble_eq_true rfl) ⟨Nat.le_of_ble_eq_true rfl, Nat.le_of_ble_eq_true rfl⟩ rfl dX1_readNumber_46 (fun r_39 _ e_40 => ?_)
      subst e_40
      refine Wd.cast (w1 := [((t 0), .inr (1, [.ref (t 1), .ref (t 2), .ref (t 3), .int (x 3 0), .int (x 3 1), .int (nI ((cu + 1) + 1))])), ((t 1), .inl (E.2.2.1, 120, .inl (x 0))), ((t 2), .inl (E.2.2.1, 60, .inl (x 1))), ((t 3), .inl (E.2.1, 180, .inl (x 2)))]) (lv1 := [(5, .int 1), (4, .int ((0 + (atP (x 0) L (cu + 1))) - 48)), (3, .int (if ngP (x 0) L cu sg then 1 else 0)), (0, .ref (t 0)), (1, .int pl), (2, .int sg)]) (st1 := [.int (atP (x 0) L ((cu + 1) + 1))]) rfl rfl rfl ?_
      refine x_callSI (wc := []) (wr := [((t 0), .inr (1, [.ref (t 1), .ref (t 2), .ref (t 3), .int (x 3 0), .int (x 3 1), .int (nI ((cu + 1) + 1))])), ((t 1), .inl (E.2.2.1, 120, .inl (x 0))), ((t 2), .inl (E.2.2.1, 60, .inl (x 1))), ((t 3), .inl (E.2.1, 180, .inl (x 2)))]) (As := [.int (atP (x 0) L ((cu + 1) + 1))]) (rest := []) C (c_X1_isDigit l E (atP (x 0) L ((cu + 1) + 1)) ) (gWS C kw_ml_X1_62 kw_st_X1_isDigit kw_ini_X1 kw_code_X1_isDigit ga_X1_isDigit ⟨Nat.le_of_ble_eq_true rfl, Nat.le_of_ble_eq_true rfl⟩) [] [0, 1, 2, 3] [0, 1, 2, 3] rfl rfl rfl rfl (by decide) (fun _ => [((t 0), .inr (1, [.ref (t 1), .ref (t 2), .ref (t 3), .int (x 3 0), .int (x 3 1), .int (nI ((cu + 1) + 1))])), ((t 1), .inl (E.2.2.1, 120, .inl (x 0))), ((t 2), .inl (E.2.2.1, 60, .inl (x 1))), ((t 3), .inl (E.2.1, 180, .inl (x 2)))]) rfl (fun _ => rfl) rfl (Nat.le_of_ble_eq_true rfl) ⟨Nat.le_of_ble_eq_true rfl, Nat.le_of_ble_eq_true rfl⟩ rfl dX1_readNumber_49 (fun r_41 _ e_42 => ?_)
      subst e_42
      refine x_ifB_eq (tgt := 86) C dX1_readNumber_52 (by decide) (fun c_52_2 => ?_) (fun c_52_2 => ?_)
      · refine x_aload_n C dX1_readNumber_86 3 rfl ?_
        refine x_get (ref := "RomSearchBus$CommandText") (v := .ref (t 3)) C inX1 0 2 rfl rfl (by decide) kw_fl_X1_18 rfl rfl dX1_readNumber_87 ?_
        refine x_aload_n C dX1_readNumber_90 3 rfl ?_
        refine x_get (ref := "RomSearchBus$CommandText") (v := .int (x 3 1)) C inX1 0 4 rfl rfl (by decide) kw_fl_X1_26 rfl rfl dX1_readNumber_91 ?_
        refine x_iconst (v := 3) C dX1_readNumber_94 (by decide) ?_
        refine x_imul C dX1_readNumber_95 ?_
        refine x_iload_n C dX1_readNumber_96 4 rfl ?_
        refine x_iadd C dX1_readNumber_97 ?_
        refine x_iload_n C dX1_readNumber_98 2 rfl ?_
        refine x_ifB_eq (tgt := 108) C dX1_readNumber_99 (by decide) (fun c_99 => absurd c_20 c_99) (fun c_99 => ?_)
        refine x_iload C dX1_readNumber_102 1 rfl ?_
        refine x_ineg C dX1_readNumber_104 ?_
        refine x_goto (tgt := 110) C dX1_readNumber_105 (by decide) ?_
        refine x_iastN C 3 rfl (by rw [hnc, hp, show (3 : Int32) = nI 3 from rfl, pk_mul, nI_add, Nat.mul_comm]) (by omega) (by decide) [((t 0), .inr (1, [.ref (t 1), .ref (t 2), .ref (t 3), .int (x 3 0), .int (x 3 1), .int (nI ((cu + 1) + 1))])), ((t 1), .inl (E.2.2.1, 120, .inl (x 0))), ((t 2), .inl (E.2.2.1, 60, .inl (x 1))), ((t 3), .inl (E.2.1, 180, .inl (upd (x 2) (3 * nc + K) (0 - ((0 + (atP (x 0) L (cu + 1))) - 48)))))] rfl dX1_readNumber_110 ?_
        refine x_iload C dX1_readNumber_111 0 rfl ?_
        refine x_if_le (tgt := 130) C dX1_readNumber_113 (by decide) (fun c_113 => absurd c_113 (by decide)) (fun c_113 => ?_)
        refine x_aload_n C dX1_readNumber_116 3 rfl ?_
        refine x_callVI (wc := [((t 0), .inr (1, [.ref (t 1), .ref (t 2), .ref (t 3), .int (x 3 0), .int (x 3 1), .int (nI ((cu + 1) + 1))])), ((t 1), .inl (E.2.2.1, 120, .inl (x 0))), ((t 2), .inl (E.2.2.1, 60, .inl (x 1))), ((t 3), .inl (E.2.1, 180, .inl (upd (x 2) (3 * nc + K) (0 - ((0 + (atP (x 0) L (cu + 1))) - 48)))))]) (wr := []) (As := []) (rest := []) (ci := 1) (q0 := 0) C (c_X1_byteAtCursor l E t (rs (rs x 3 2 (nI ((cu + 1) + 1))) 2 (3 * nc + K) (0 - ((0 + (atP (x 0) L (cu + 1))) - 48))) L ((cu + 1) + 1) hL hL2 rfl (by omega)) (gWV C kw_ml_X1_46 kw_im_X1_byteAtCursor kw_sel_X1_byteAtCursor kw_ini_X1 kw_code_X1_byteAtCursor ga_X1_byteAtCursor ⟨Nat.le_of_ble_eq_true rfl, Nat.le_of_ble_eq_true rfl⟩) rfl rfl [0, 1, 2, 3] [] [0, 1, 2, 3] rfl rfl rfl rfl (by decide) (fun _ => [((t 0), .inr (1, [.ref (t 1), .ref (t 2), .ref (t 3), .int (x 3 0), .int (x 3 1), .int (nI ((cu + 1) + 1))])), ((t 1), .inl (E.2.2.1, 120, .inl (x 0))), ((t 2), .inl (E.2.2.1, 60, .inl (x 1))), ((t 3), .inl (E.2.1, 180, .inl (upd (x 2) (3 * nc + K) (0 - ((0 + (atP (x 0) L (cu + 1))) - 48)))))]) rfl (fun _ => rfl) rfl (Nat.le_of_ble_eq_true rfl) ⟨Nat.le_of_ble_eq_true rfl, Nat.le_of_ble_eq_true rfl⟩ rfl dX1_readNumber_117 (fun r_43 _ e_44 => ?_)
        subst e_44
        refine Wd.cast (w1 := [((t 0), .inr (1, [.ref (t 1), .ref (t 2), .ref (t 3), .int (x 3 0), .int (x 3 1), .int (nI ((cu + 1) + 1))])), ((t 1), .inl (E.2.2.1, 120, .inl (x 0))), ((t 2), .inl (E.2.2.1, 60, .inl (x 1))), ((t 3), .inl (E.2.1, 180, .inl (upd (x 2) (3 * nc + K) (0 - ((0 + (atP (x 0) L (cu + 1))) - 48)))))]) (lv1 := [(5, .int 1), (4, .int ((0 + (atP (x 0) L (cu + 1))) - 48)), (3, .int (if ngP (x 0) L cu sg then 1 else 0)), (0, .ref (t 0)), (1, .int pl), (2, .int sg)]) (st1 := [.int (atP (x 0) L ((cu + 1) + 1))]) rfl rfl rfl ?_
        refine x_callSI (wc := []) (wr := [((t 0), .inr (1, [.ref (t 1), .ref (t 2), .ref (t 3), .int (x 3 0), .int (x 3 1), .int (nI ((cu + 1) + 1))])), ((t 1), .inl (E.2.2.1, 120, .inl (x 0))), ((t 2), .inl (E.2.2.1, 60, .inl (x 1))), ((t 3), .inl (E.2.1, 180, .inl (upd (x 2) (3 * nc + K) (0 - ((0 + (atP (x 0) L (cu + 1))) - 48)))))]) (As := [.int (atP (x 0) L ((cu + 1) + 1))]) (rest := []) C (c_X1_isDigit l E (atP (x 0) L ((cu + 1) + 1)) ) (gWS C kw_ml_X1_62 kw_st_X1_isDigit kw_ini_X1 kw_code_X1_isDigit ga_X1_isDigit ⟨Nat.le_of_ble_eq_true rfl, Nat.le_of_ble_eq_true rfl⟩) [] [0, 1, 2, 3] [0, 1, 2, 3] rfl rfl rfl rfl (by decide) (fun _ => [((t 0), .inr (1, [.ref (t 1), .ref (t 2), .ref (t 3), .int (x 3 0), .int (x 3 1), .int (nI ((cu + 1) + 1))])), ((t 1), .inl (E.2.2.1, 120, .inl (x 0))), ((t 2), .inl (E.2.2.1, 60, .inl (x 1))), ((t 3), .inl (E.2.1, 180, .inl (upd (x 2) (3 * nc + K) (0 - ((0 + (atP (x 0) L (cu + 1))) - 48)))))]) rfl (fun _ => rfl) rfl (Nat.le_of_ble_eq_true rfl) ⟨Nat.le_of_ble_eq_true rfl, Nat.le_of_ble_eq_true rfl⟩ rfl dX1_readNumber_120 (fun r_45 _ e_46 => ?_)
        subst e_46
        refine x_ifB_ne (tgt := 130) C dX1_readNumber_123 (by decide) (fun c_123 => absurd c_123 c_52_2) (fun c_123 => ?_)
        refine x_iconst (v := 1) C dX1_readNumber_126 (by decide) ?_
        refine x_goto (tgt := 131) C dX1_readNumber_127 (by decide) ?_
        have e1 : nS (x 0) L cu sg = cu + 1 := by unfold nS; rw [if_pos c_20]
        have e2 : nD (x 0) L (cu + 1) = 1 := by unfold nD; rw [if_pos c_52, if_neg c_52_2]
        have e3 : nVal (x 0) L cu sg = (0 - ((0 + (atP (x 0) L (cu + 1))) - 48)) := by unfold nVal; rw [if_pos c_20, e1]; unfold nV; rw [if_pos c_52, if_neg c_52_2]
        have e4 : nE (x 0) L cu sg = (cu + 1) + 1 := by unfold nE; rw [e1, e2]
        have e5 :  nOk (x 0) L cu sg := by
          exact ⟨by rw [e1, e2]; decide, by rw [e4]; exact c_52_2⟩
        exact x_iret C hr hlocks rfl () (by rw [if_pos e5]) (by rw [e3, e4]; exact gEq.rf _) dX1_readNumber_131
      · refine x_bipush (v := 10) C dX1_readNumber_55 (by decide) ?_
        refine x_iload C dX1_readNumber_57 1 rfl ?_
        refine x_imul C dX1_readNumber_59 ?_
        refine x_aload_n C dX1_readNumber_60 3 rfl ?_
        refine x_callVI (wc := [((t 0), .inr (1, [.ref (t 1), .ref (t 2), .ref (t 3), .int (x 3 0), .int (x 3 1), .int (nI ((cu + 1) + 1))])), ((t 1), .inl (E.2.2.1, 120, .inl (x 0))), ((t 2), .inl (E.2.2.1, 60, .inl (x 1))), ((t 3), .inl (E.2.1, 180, .inl (x 2)))]) (wr := []) (As := []) (rest := [.int (10 * ((0 + (atP (x 0) L (cu + 1))) - 48))]) (ci := 1) (q0 := 0) C (c_X1_byteAtCursor l E t (rs x 3 2 (nI ((cu + 1) + 1))) L ((cu + 1) + 1) hL hL2 rfl (by omega)) (gWV C kw_ml_X1_46 kw_im_X1_byteAtCursor kw_sel_X1_byteAtCursor kw_ini_X1 kw_code_X1_byteAtCursor ga_X1_byteAtCursor ⟨Nat.le_of_ble_eq_true rfl, Nat.le_of_ble_eq_true rfl⟩) rfl rfl [0, 1, 2, 3] [] [0, 1, 2, 3] rfl rfl rfl rfl (by decide) (fun _ => [((t 0), .inr (1, [.ref (t 1), .ref (t 2), .ref (t 3), .int (x 3 0), .int (x 3 1), .int (nI ((cu + 1) + 1))])), ((t 1), .inl (E.2.2.1, 120, .inl (x 0))), ((t 2), .inl (E.2.2.1, 60, .inl (x 1))), ((t 3), .inl (E.2.1, 180, .inl (x 2)))]) rfl (fun _ => rfl) rfl (Nat.le_of_ble_eq_true rfl) ⟨Nat.le_of_ble_eq_true rfl, Nat.le_of_ble_eq_true rfl⟩ rfl dX1_readNumber_61 (fun r_47 _ e_48 => ?_)
        subst e_48
        refine Wd.cast (w1 := [((t 0), .inr (1, [.ref (t 1), .ref (t 2), .ref (t 3), .int (x 3 0), .int (x 3 1), .int (nI ((cu + 1) + 1))])), ((t 1), .inl (E.2.2.1, 120, .inl (x 0))), ((t 2), .inl (E.2.2.1, 60, .inl (x 1))), ((t 3), .inl (E.2.1, 180, .inl (x 2)))]) (lv1 := [(5, .int 1), (4, .int ((0 + (atP (x 0) L (cu + 1))) - 48)), (3, .int (if ngP (x 0) L cu sg then 1 else 0)), (0, .ref (t 0)), (1, .int pl), (2, .int sg)]) (st1 := [.int (atP (x 0) L ((cu + 1) + 1)), .int (10 * ((0 + (atP (x 0) L (cu + 1))) - 48))]) rfl rfl rfl ?_
        refine x_iadd C dX1_readNumber_64 ?_
        refine x_bipush (v := 48) C dX1_readNumber_65 (by decide) ?_
        refine x_isub C dX1_readNumber_67 ?_
        refine x_istore (lv1 := [(4, .int (((10 * ((0 + (atP (x 0) L (cu + 1))) - 48)) + (atP (x 0) L ((cu + 1) + 1))) - 48)), (5, .int 1), (3, .int (if ngP (x 0) L cu sg then 1 else 0)), (0, .ref (t 0)), (1, .int pl), (2, .int sg)]) C dX1_readNumber_68 (by decide) rfl ?_
        refine x_aload_n C dX1_readNumber_70 3 rfl ?_
        refine x_dup C dX1_readNumber_71 rfl ?_
        refine x_get (ref := "RomSearchBus$CommandText") (v := .int (nI ((cu + 1) + 1))) C inX1 0 5 rfl rfl (by decide) kw_fl_X1_29 rfl rfl dX1_readNumber_72 ?_
        refine x_iconst (v := 1) C dX1_readNumber_75 (by decide) ?_
        refine x_iadd C dX1_readNumber_76 ?_
        refine Wd.cast (w1 := [((t 0), .inr (1, [.ref (t 1), .ref (t 2), .ref (t 3), .int (x 3 0), .int (x 3 1), .int (nI ((cu + 1) + 1))])), ((t 1), .inl (E.2.2.1, 120, .inl (x 0))), ((t 2), .inl (E.2.2.1, 60, .inl (x 1))), ((t 3), .inl (E.2.1, 180, .inl (x 2)))]) (lv1 := [(4, .int (((10 * ((0 + (atP (x 0) L (cu + 1))) - 48)) + (atP (x 0) L ((cu + 1) + 1))) - 48)), (5, .int 1), (3, .int (if ngP (x 0) L cu sg then 1 else 0)), (0, .ref (t 0)), (1, .int pl), (2, .int sg)]) (st1 := [.int (nI (((cu + 1) + 1) + 1)), .ref (t 0)]) rfl rfl (by rw [nI_1]) ?_
        refine x_put (ref := "RomSearchBus$CommandText") C inX1 tyX1 tyX1_ok nmX1 0 5 rfl rfl (by decide) kw_fl_X1_29 rfl rfl rfl rfl (Nat.le_of_ble_eq_true rfl) [((t 0), .inr (1, [.ref (t 1), .ref (t 2), .ref (t 3), .int (x 3 0), .int (x 3 1), .int (nI (((cu + 1) + 1) + 1))])), ((t 1), .inl (E.2.2.1, 120, .inl (x 0))), ((t 2), .inl (E.2.2.1, 60, .inl (x 1))), ((t 3), .inl (E.2.1, 180, .inl (x 2)))] rfl dX1_readNumber_77 ?_
        refine x_iinc (j := 1) (v := 2) (lv1 := [(5, .int 2), (4, .int (((10 * ((0 + (atP (x 0) L (cu + 1))) - 48)) + (atP (x 0) L ((cu + 1) + 1))) - 48)), (3, .int (if ngP (x 0) L cu sg then 1 else 0)), (0, .ref (t 0)), (1, .int pl), (2, .int sg)]) C dX1_readNumber_80 rfl (by decide) (by decide) rfl ?_
        refine x_goto (tgt := 39) C dX1_readNumber_83 (by decide) ?_
        refine x_iload C dX1_readNumber_39 0 rfl ?_
        refine x_iconst (v := 3) C dX1_readNumber_41 (by decide) ?_
        refine x_icmp_ge (tgt := 86) C dX1_readNumber_42 (by decide) (fun c_42_3 => absurd c_42_3 (by decide)) (fun c_42_3 => ?_)
        refine x_aload_n C dX1_readNumber_45 3 rfl ?_
        refine x_callVI (wc := [((t 0), .inr (1, [.ref (t 1), .ref (t 2), .ref (t 3), .int (x 3 0), .int (x 3 1), .int (nI (((cu + 1) + 1) + 1))])), ((t 1), .inl (E.2.2.1, 120, .inl (x 0))), ((t 2), .inl (E.2.2.1, 60, .inl (x 1))), ((t 3), .inl (E.2.1, 180, .inl (x 2)))]) (wr := []) (As := []) (rest := []) (ci := 1) (q0 := 0) C (c_X1_byteAtCursor l E t (rs x 3 2 (nI (((cu + 1) + 1) + 1))) L (((cu + 1) + 1) + 1) hL hL2 rfl (by omega)) (gWV C kw_ml_X1_46 kw_im_X1_byteAtCursor kw_sel_X1_byteAtCursor kw_ini_X1 kw_code_X1_byteAtCursor ga_X1_byteAtCursor ⟨Nat.le_of_ble_eq_true rfl, Nat.le_of_ble_eq_true rfl⟩) rfl rfl [0, 1, 2, 3] [] [0, 1, 2, 3] rfl rfl rfl rfl (by decide) (fun _ => [((t 0), .inr (1, [.ref (t 1), .ref (t 2), .ref (t 3), .int (x 3 0), .int (x 3 1), .int (nI (((cu + 1) + 1) + 1))])), ((t 1), .inl (E.2.2.1, 120, .inl (x 0))), ((t 2), .inl (E.2.2.1, 60, .inl (x 1))), ((t 3), .inl (E.2.1, 180, .inl (x 2)))]) rfl (fun _ => rfl) rfl (Nat.le_of_ble_eq_true rfl) ⟨Nat.le_of_ble_eq_true rfl, Nat.le_of_ble_eq_true rfl⟩ rfl dX1_readNumber_46 (fun r_49 _ e_50 => ?_)
        subst e_50
        refine Wd.cast (w1 := [((t 0), .inr (1, [.ref (t 1), .ref (t 2), .ref (t 3), .int (x 3 0), .int (x 3 1), .int (nI (((cu + 1) + 1) + 1))])), ((t 1), .inl (E.2.2.1, 120, .inl (x 0))), ((t 2), .inl (E.2.2.1, 60, .inl (x 1))), ((t 3), .inl (E.2.1, 180, .inl (x 2)))]) (lv1 := [(5, .int 2), (4, .int (((10 * ((0 + (atP (x 0) L (cu + 1))) - 48)) + (atP (x 0) L ((cu + 1) + 1))) - 48)), (3, .int (if ngP (x 0) L cu sg then 1 else 0)), (0, .ref (t 0)), (1, .int pl), (2, .int sg)]) (st1 := [.int (atP (x 0) L (((cu + 1) + 1) + 1))]) rfl rfl rfl ?_
        refine x_callSI (wc := []) (wr := [((t 0), .inr (1, [.ref (t 1), .ref (t 2), .ref (t 3), .int (x 3 0), .int (x 3 1), .int (nI (((cu + 1) + 1) + 1))])), ((t 1), .inl (E.2.2.1, 120, .inl (x 0))), ((t 2), .inl (E.2.2.1, 60, .inl (x 1))), ((t 3), .inl (E.2.1, 180, .inl (x 2)))]) (As := [.int (atP (x 0) L (((cu + 1) + 1) + 1))]) (rest := []) C (c_X1_isDigit l E (atP (x 0) L (((cu + 1) + 1) + 1)) ) (gWS C kw_ml_X1_62 kw_st_X1_isDigit kw_ini_X1 kw_code_X1_isDigit ga_X1_isDigit ⟨Nat.le_of_ble_eq_true rfl, Nat.le_of_ble_eq_true rfl⟩) [] [0, 1, 2, 3] [0, 1, 2, 3] rfl rfl rfl rfl (by decide) (fun _ => [((t 0), .inr (1, [.ref (t 1), .ref (t 2), .ref (t 3), .int (x 3 0), .int (x 3 1), .int (nI (((cu + 1) + 1) + 1))])), ((t 1), .inl (E.2.2.1, 120, .inl (x 0))), ((t 2), .inl (E.2.2.1, 60, .inl (x 1))), ((t 3), .inl (E.2.1, 180, .inl (x 2)))]) rfl (fun _ => rfl) rfl (Nat.le_of_ble_eq_true rfl) ⟨Nat.le_of_ble_eq_true rfl, Nat.le_of_ble_eq_true rfl⟩ rfl dX1_readNumber_49 (fun r_51 _ e_52 => ?_)
        subst e_52
        refine x_ifB_eq (tgt := 86) C dX1_readNumber_52 (by decide) (fun c_52_3 => ?_) (fun c_52_3 => ?_)
        · refine x_aload_n C dX1_readNumber_86 3 rfl ?_
          refine x_get (ref := "RomSearchBus$CommandText") (v := .ref (t 3)) C inX1 0 2 rfl rfl (by decide) kw_fl_X1_18 rfl rfl dX1_readNumber_87 ?_
          refine x_aload_n C dX1_readNumber_90 3 rfl ?_
          refine x_get (ref := "RomSearchBus$CommandText") (v := .int (x 3 1)) C inX1 0 4 rfl rfl (by decide) kw_fl_X1_26 rfl rfl dX1_readNumber_91 ?_
          refine x_iconst (v := 3) C dX1_readNumber_94 (by decide) ?_
          refine x_imul C dX1_readNumber_95 ?_
          refine x_iload_n C dX1_readNumber_96 4 rfl ?_
          refine x_iadd C dX1_readNumber_97 ?_
          refine x_iload_n C dX1_readNumber_98 2 rfl ?_
          refine x_ifB_eq (tgt := 108) C dX1_readNumber_99 (by decide) (fun c_99 => absurd c_20 c_99) (fun c_99 => ?_)
          refine x_iload C dX1_readNumber_102 1 rfl ?_
          refine x_ineg C dX1_readNumber_104 ?_
          refine x_goto (tgt := 110) C dX1_readNumber_105 (by decide) ?_
          refine x_iastN C 3 rfl (by rw [hnc, hp, show (3 : Int32) = nI 3 from rfl, pk_mul, nI_add, Nat.mul_comm]) (by omega) (by decide) [((t 0), .inr (1, [.ref (t 1), .ref (t 2), .ref (t 3), .int (x 3 0), .int (x 3 1), .int (nI (((cu + 1) + 1) + 1))])), ((t 1), .inl (E.2.2.1, 120, .inl (x 0))), ((t 2), .inl (E.2.2.1, 60, .inl (x 1))), ((t 3), .inl (E.2.1, 180, .inl (upd (x 2) (3 * nc + K) (0 - (((10 * ((0 + (atP (x 0) L (cu + 1))) - 48)) + (atP (x 0) L ((cu + 1) + 1))) - 48)))))] rfl dX1_readNumber_110 ?_
          refine x_iload C dX1_readNumber_111 0 rfl ?_
          refine x_if_le (tgt := 130) C dX1_readNumber_113 (by decide) (fun c_113 => absurd c_113 (by decide)) (fun c_113 => ?_)
          refine x_aload_n C dX1_readNumber_116 3 rfl ?_
          refine x_callVI (wc := [((t 0), .inr (1, [.ref (t 1), .ref (t 2), .ref (t 3), .int (x 3 0), .int (x 3 1), .int (nI (((cu + 1) + 1) + 1))])), ((t 1), .inl (E.2.2.1, 120, .inl (x 0))), ((t 2), .inl (E.2.2.1, 60, .inl (x 1))), ((t 3), .inl (E.2.1, 180, .inl (upd (x 2) (3 * nc + K) (0 - (((10 * ((0 + (atP (x 0) L (cu + 1))) - 48)) + (atP (x 0) L ((cu + 1) + 1))) - 48)))))]) (wr := []) (As := []) (rest := []) (ci := 1) (q0 := 0) C (c_X1_byteAtCursor l E t (rs (rs x 3 2 (nI (((cu + 1) + 1) + 1))) 2 (3 * nc + K) (0 - (((10 * ((0 + (atP (x 0) L (cu + 1))) - 48)) + (atP (x 0) L ((cu + 1) + 1))) - 48))) L (((cu + 1) + 1) + 1) hL hL2 rfl (by omega)) (gWV C kw_ml_X1_46 kw_im_X1_byteAtCursor kw_sel_X1_byteAtCursor kw_ini_X1 kw_code_X1_byteAtCursor ga_X1_byteAtCursor ⟨Nat.le_of_ble_eq_true rfl, Nat.le_of_ble_eq_true rfl⟩) rfl rfl [0, 1, 2, 3] [] [0, 1, 2, 3] rfl rfl rfl rfl (by decide) (fun _ => [((t 0), .inr (1, [.ref (t 1), .ref (t 2), .ref (t 3), .int (x 3 0), .int (x 3 1), .int (nI (((cu + 1) + 1) + 1))])), ((t 1), .inl (E.2.2.1, 120, .inl (x 0))), ((t 2), .inl (E.2.2.1, 60, .inl (x 1))), ((t 3), .inl (E.2.1, 180, .inl (upd (x 2) (3 * nc + K) (0 - (((10 * ((0 + (atP (x 0) L (cu + 1))) - 48)) + (atP (x 0) L ((cu + 1) + 1))) - 48)))))]) rfl (fun _ => rfl) rfl (Nat.le_of_ble_eq_true rfl) ⟨Nat.le_of_ble_eq_true rfl, Nat.le_of_ble_eq_true rfl⟩ rfl dX1_readNumber_117 (fun r_53 _ e_54 => ?_)
          subst e_54
          refine Wd.cast (w1 := [((t 0), .inr (1, [.ref (t 1), .ref (t 2), .ref (t 3), .int (x 3 0), .int (x 3 1), .int (nI (((cu + 1) + 1) + 1))])), ((t 1), .inl (E.2.2.1, 120, .inl (x 0))), ((t 2), .inl (E.2.2.1, 60, .inl (x 1))), ((t 3), .inl (E.2.1, 180, .inl (upd (x 2) (3 * nc + K) (0 - (((10 * ((0 + (atP (x 0) L (cu + 1))) - 48)) + (atP (x 0) L ((cu + 1) + 1))) - 48)))))]) (lv1 := [(5, .int 2), (4, .int (((10 * ((0 + (atP (x 0) L (cu + 1))) - 48)) + (atP (x 0) L ((cu + 1) + 1))) - 48)), (3, .int (if ngP (x 0) L cu sg then 1 else 0)), (0, .ref (t 0)), (1, .int pl), (2, .int sg)]) (st1 := [.int (atP (x 0) L (((cu + 1) + 1) + 1))]) rfl rfl rfl ?_
          refine x_callSI (wc := []) (wr := [((t 0), .inr (1, [.ref (t 1), .ref (t 2), .ref (t 3), .int (x 3 0), .int (x 3 1), .int (nI (((cu + 1) + 1) + 1))])), ((t 1), .inl (E.2.2.1, 120, .inl (x 0))), ((t 2), .inl (E.2.2.1, 60, .inl (x 1))), ((t 3), .inl (E.2.1, 180, .inl (upd (x 2) (3 * nc + K) (0 - (((10 * ((0 + (atP (x 0) L (cu + 1))) - 48)) + (atP (x 0) L ((cu + 1) + 1))) - 48)))))]) (As := [.int (atP (x 0) L (((cu + 1) + 1) + 1))]) (rest := []) C (c_X1_isDigit l E (atP (x 0) L (((cu + 1) + 1) + 1)) ) (gWS C kw_ml_X1_62 kw_st_X1_isDigit kw_ini_X1 kw_code_X1_isDigit ga_X1_isDigit ⟨Nat.le_of_ble_eq_true rfl, Nat.le_of_ble_eq_true rfl⟩) [] [0, 1, 2, 3] [0, 1, 2, 3] rfl rfl rfl rfl (by decide) (fun _ => [((t 0), .inr (1, [.ref (t 1), .ref (t 2), .ref (t 3), .int (x 3 0), .int (x 3 1), .int (nI (((cu + 1) + 1) + 1))])), ((t 1), .inl (E.2.2.1, 120, .inl (x 0))), ((t 2), .inl (E.2.2.1, 60, .inl (x 1))), ((t 3), .inl (E.2.1, 180, .inl (upd (x 2) (3 * nc + K) (0 - (((10 * ((0 + (atP (x 0) L (cu + 1))) - 48)) + (atP (x 0) L ((cu + 1) + 1))) - 48)))))]) rfl (fun _ => rfl) rfl (Nat.le_of_ble_eq_true rfl) ⟨Nat.le_of_ble_eq_true rfl, Nat.le_of_ble_eq_true rfl⟩ rfl dX1_readNumber_120 (fun r_55 _ e_56 => ?_)
          subst e_56
          refine x_ifB_ne (tgt := 130) C dX1_readNumber_123 (by decide) (fun c_123 => absurd c_123 c_52_3) (fun c_123 => ?_)
          refine x_iconst (v := 1) C dX1_readNumber_126 (by decide) ?_
          refine x_goto (tgt := 131) C dX1_readNumber_127 (by decide) ?_
          have e1 : nS (x 0) L cu sg = cu + 1 := by unfold nS; rw [if_pos c_20]
          have e2 : nD (x 0) L (cu + 1) = 2 := by unfold nD; rw [if_pos c_52, if_pos c_52_2, if_neg c_52_3]
          have e3 : nVal (x 0) L cu sg = (0 - (((10 * ((0 + (atP (x 0) L (cu + 1))) - 48)) + (atP (x 0) L ((cu + 1) + 1))) - 48)) := by unfold nVal; rw [if_pos c_20, e1]; unfold nV; rw [if_pos c_52, if_pos c_52_2, if_neg c_52_3]
          have e4 : nE (x 0) L cu sg = (cu + 1) + 2 := by unfold nE; rw [e1, e2]
          have e5 :  nOk (x 0) L cu sg := by
            exact ⟨by rw [e1, e2]; decide, by rw [e4]; exact c_52_3⟩
          exact x_iret C hr hlocks rfl () (by rw [if_pos e5]) (by rw [e3, e4]; exact gEq.rf _) dX1_readNumber_131
        · refine x_bipush (v := 10) C dX1_readNumber_55 (by decide) ?_
          refine x_iload C dX1_readNumber_57 1 rfl ?_
          refine x_imul C dX1_readNumber_59 ?_
          refine x_aload_n C dX1_readNumber_60 3 rfl ?_
          refine x_callVI (wc := [((t 0), .inr (1, [.ref (t 1), .ref (t 2), .ref (t 3), .int (x 3 0), .int (x 3 1), .int (nI (((cu + 1) + 1) + 1))])), ((t 1), .inl (E.2.2.1, 120, .inl (x 0))), ((t 2), .inl (E.2.2.1, 60, .inl (x 1))), ((t 3), .inl (E.2.1, 180, .inl (x 2)))]) (wr := []) (As := []) (rest := [.int (10 * (((10 * ((0 + (atP (x 0) L (cu + 1))) - 48)) + (atP (x 0) L ((cu + 1) + 1))) - 48))]) (ci := 1) (q0 := 0) C (c_X1_byteAtCursor l E t (rs x 3 2 (nI (((cu + 1) + 1) + 1))) L (((cu + 1) + 1) + 1) hL hL2 rfl (by omega)) (gWV C kw_ml_X1_46 kw_im_X1_byteAtCursor kw_sel_X1_byteAtCursor kw_ini_X1 kw_code_X1_byteAtCursor ga_X1_byteAtCursor ⟨Nat.le_of_ble_eq_true rfl, Nat.le_of_ble_eq_true rfl⟩) rfl rfl [0, 1, 2, 3] [] [0, 1, 2, 3] rfl rfl rfl rfl (by decide) (fun _ => [((t 0), .inr (1, [.ref (t 1), .ref (t 2), .ref (t 3), .int (x 3 0), .int (x 3 1), .int (nI (((cu + 1) + 1) + 1))])), ((t 1), .inl (E.2.2.1, 120, .inl (x 0))), ((t 2), .inl (E.2.2.1, 60, .inl (x 1))), ((t 3), .inl (E.2.1, 180, .inl (x 2)))]) rfl (fun _ => rfl) rfl (Nat.le_of_ble_eq_true rfl) ⟨Nat.le_of_ble_eq_true rfl, Nat.le_of_ble_eq_true rfl⟩ rfl dX1_readNumber_61 (fun r_57 _ e_58 => ?_)
          subst e_58
          refine Wd.cast (w1 := [((t 0), .inr (1, [.ref (t 1), .ref (t 2), .ref (t 3), .int (x 3 0), .int (x 3 1), .int (nI (((cu + 1) + 1) + 1))])), ((t 1), .inl (E.2.2.1, 120, .inl (x 0))), ((t 2), .inl (E.2.2.1, 60, .inl (x 1))), ((t 3), .inl (E.2.1, 180, .inl (x 2)))]) (lv1 := [(5, .int 2), (4, .int (((10 * ((0 + (atP (x 0) L (cu + 1))) - 48)) + (atP (x 0) L ((cu + 1) + 1))) - 48)), (3, .int (if ngP (x 0) L cu sg then 1 else 0)), (0, .ref (t 0)), (1, .int pl), (2, .int sg)]) (st1 := [.int (atP (x 0) L (((cu + 1) + 1) + 1)), .int (10 * (((10 * ((0 + (atP (x 0) L (cu + 1))) - 48)) + (atP (x 0) L ((cu + 1) + 1))) - 48))]) rfl rfl rfl ?_
          refine x_iadd C dX1_readNumber_64 ?_
          refine x_bipush (v := 48) C dX1_readNumber_65 (by decide) ?_
          refine x_isub C dX1_readNumber_67 ?_
          refine x_istore (lv1 := [(4, .int (((10 * (((10 * ((0 + (atP (x 0) L (cu + 1))) - 48)) + (atP (x 0) L ((cu + 1) + 1))) - 48)) + (atP (x 0) L (((cu + 1) + 1) + 1))) - 48)), (5, .int 2), (3, .int (if ngP (x 0) L cu sg then 1 else 0)), (0, .ref (t 0)), (1, .int pl), (2, .int sg)]) C dX1_readNumber_68 (by decide) rfl ?_
          refine x_aload_n C dX1_readNumber_70 3 rfl ?_
          refine x_dup C dX1_readNumber_71 rfl ?_
          refine x_get (ref := "RomSearchBus$CommandText") (v := .int (nI (((cu + 1) + 1) + 1))) C inX1 0 5 rfl rfl (by decide) kw_fl_X1_29 rfl rfl dX1_readNumber_72 ?_
          refine x_iconst (v := 1) C dX1_readNumber_75 (by decide) ?_
          refine x_iadd C dX1_readNumber_76 ?_
          refine Wd.cast (w1 := [((t 0), .inr (1, [.ref (t 1), .ref (t 2), .ref (t 3), .int (x 3 0), .int (x 3 1), .int (nI (((cu + 1) + 1) + 1))])), ((t 1), .inl (E.2.2.1, 120, .inl (x 0))), ((t 2), .inl (E.2.2.1, 60, .inl (x 1))), ((t 3), .inl (E.2.1, 180, .inl (x 2)))]) (lv1 := [(4, .int (((10 * (((10 * ((0 + (atP (x 0) L (cu + 1))) - 48)) + (atP (x 0) L ((cu + 1) + 1))) - 48)) + (atP (x 0) L (((cu + 1) + 1) + 1))) - 48)), (5, .int 2), (3, .int (if ngP (x 0) L cu sg then 1 else 0)), (0, .ref (t 0)), (1, .int pl), (2, .int sg)]) (st1 := [.int (nI ((((cu + 1) + 1) + 1) + 1)), .ref (t 0)]) rfl rfl (by rw [nI_1]) ?_
          refine x_put (ref := "RomSearchBus$CommandText") C inX1 tyX1 tyX1_ok nmX1 0 5 rfl rfl (by decide) kw_fl_X1_29 rfl rfl rfl rfl (Nat.le_of_ble_eq_true rfl) [((t 0), .inr (1, [.ref (t 1), .ref (t 2), .ref (t 3), .int (x 3 0), .int (x 3 1), .int (nI ((((cu + 1) + 1) + 1) + 1))])), ((t 1), .inl (E.2.2.1, 120, .inl (x 0))), ((t 2), .inl (E.2.2.1, 60, .inl (x 1))), ((t 3), .inl (E.2.1, 180, .inl (x 2)))] rfl dX1_readNumber_77 ?_
          refine x_iinc (j := 1) (v := 3) (lv1 := [(5, .int 3), (4, .int (((10 * (((10 * ((0 + (atP (x 0) L (cu + 1))) - 48)) + (atP (x 0) L ((cu + 1) + 1))) - 48)) + (atP (x 0) L (((cu + 1) + 1) + 1))) - 48)), (3, .int (if ngP (x 0) L cu sg then 1 else 0)), (0, .ref (t 0)), (1, .int pl), (2, .int sg)]) C dX1_readNumber_80 rfl (by decide) (by decide) rfl ?_
          refine x_goto (tgt := 39) C dX1_readNumber_83 (by decide) ?_
          refine x_iload C dX1_readNumber_39 0 rfl ?_
          refine x_iconst (v := 3) C dX1_readNumber_41 (by decide) ?_
          refine x_icmp_ge (tgt := 86) C dX1_readNumber_42 (by decide) (fun c_42_4 => ?_) (fun c_42_4 => absurd c_42_4 (by decide))
          refine x_aload_n C dX1_readNumber_86 3 rfl ?_
          refine x_get (ref := "RomSearchBus$CommandText") (v := .ref (t 3)) C inX1 0 2 rfl rfl (by decide) kw_fl_X1_18 rfl rfl dX1_readNumber_87 ?_
          refine x_aload_n C dX1_readNumber_90 3 rfl ?_
          refine x_get (ref := "RomSearchBus$CommandText") (v := .int (x 3 1)) C inX1 0 4 rfl rfl (by decide) kw_fl_X1_26 rfl rfl dX1_readNumber_91 ?_
          refine x_iconst (v := 3) C dX1_readNumber_94 (by decide) ?_
          refine x_imul C dX1_readNumber_95 ?_
          refine x_iload_n C dX1_readNumber_96 4 rfl ?_
          refine x_iadd C dX1_readNumber_97 ?_
          refine x_iload_n C dX1_readNumber_98 2 rfl ?_
          refine x_ifB_eq (tgt := 108) C dX1_readNumber_99 (by decide) (fun c_99 => absurd c_20 c_99) (fun c_99 => ?_)
          refine x_iload C dX1_readNumber_102 1 rfl ?_
          refine x_ineg C dX1_readNumber_104 ?_
          refine x_goto (tgt := 110) C dX1_readNumber_105 (by decide) ?_
          refine x_iastN C 3 rfl (by rw [hnc, hp, show (3 : Int32) = nI 3 from rfl, pk_mul, nI_add, Nat.mul_comm]) (by omega) (by decide) [((t 0), .inr (1, [.ref (t 1), .ref (t 2), .ref (t 3), .int (x 3 0), .int (x 3 1), .int (nI ((((cu + 1) + 1) + 1) + 1))])), ((t 1), .inl (E.2.2.1, 120, .inl (x 0))), ((t 2), .inl (E.2.2.1, 60, .inl (x 1))), ((t 3), .inl (E.2.1, 180, .inl (upd (x 2) (3 * nc + K) (0 - (((10 * (((10 * ((0 + (atP (x 0) L (cu + 1))) - 48)) + (atP (x 0) L ((cu + 1) + 1))) - 48)) + (atP (x 0) L (((cu + 1) + 1) + 1))) - 48)))))] rfl dX1_readNumber_110 ?_
          refine x_iload C dX1_readNumber_111 0 rfl ?_
          refine x_if_le (tgt := 130) C dX1_readNumber_113 (by decide) (fun c_113 => absurd c_113 (by decide)) (fun c_113 => ?_)
          refine x_aload_n C dX1_readNumber_116 3 rfl ?_
          refine x_callVI (wc := [((t 0), .inr (1, [.ref (t 1), .ref (t 2), .ref (t 3), .int (x 3 0), .int (x 3 1), .int (nI ((((cu + 1) + 1) + 1) + 1))])), ((t 1), .inl (E.2.2.1, 120, .inl (x 0))), ((t 2), .inl (E.2.2.1, 60, .inl (x 1))), ((t 3), .inl (E.2.1, 180, .inl (upd (x 2) (3 * nc + K) (0 - (((10 * (((10 * ((0 + (atP (x 0) L (cu + 1))) - 48)) + (atP (x 0) L ((cu + 1) + 1))) - 48)) + (atP (x 0) L (((cu + 1) + 1) + 1))) - 48)))))]) (wr := []) (As := []) (rest := []) (ci := 1) (q0 := 0) C (c_X1_byteAtCursor l E t (rs (rs x 3 2 (nI ((((cu + 1) + 1) + 1) + 1))) 2 (3 * nc + K) (0 - (((10 * (((10 * ((0 + (atP (x 0) L (cu + 1))) - 48)) + (atP (x 0) L ((cu + 1) + 1))) - 48)) + (atP (x 0) L (((cu + 1) + 1) + 1))) - 48))) L ((((cu + 1) + 1) + 1) + 1) hL hL2 rfl (by omega)) (gWV C kw_ml_X1_46 kw_im_X1_byteAtCursor kw_sel_X1_byteAtCursor kw_ini_X1 kw_code_X1_byteAtCursor ga_X1_byteAtCursor ⟨Nat.le_of_ble_eq_true rfl, Nat.le_of_ble_eq_true rfl⟩) rfl rfl [0, 1, 2, 3] [] [0, 1, 2, 3] rfl rfl rfl rfl (by decide) (fun _ => [((t 0), .inr (1, [.ref (t 1), .ref (t 2), .ref (t 3), .int (x 3 0), .int (x 3 1), .int (nI ((((cu + 1) + 1) + 1) + 1))])), ((t 1), .inl (E.2.2.1, 120, .inl (x 0))), ((t 2), .inl (E.2.2.1, 60, .inl (x 1))), ((t 3), .inl (E.2.1, 180, .inl (upd (x 2) (3 * nc + K) (0 - (((10 * (((10 * ((0 + (atP (x 0) L (cu + 1))) - 48)) + (atP (x 0) L ((cu + 1) + 1))) - 48)) + (atP (x 0) L (((cu + 1) + 1) + 1))) - 48)))))]) rfl (fun _ => rfl) rfl (Nat.le_of_ble_eq_true rfl) ⟨Nat.le_of_ble_eq_true rfl, Nat.le_of_ble_eq_true rfl⟩ rfl dX1_readNumber_117 (fun r_59 _ e_60 => ?_)
          subst e_60
          refine Wd.cast (w1 := [((t 0), .inr (1, [.ref (t 1), .ref (t 2), .ref (t 3), .int (x 3 0), .int (x 3 1), .int (nI ((((cu + 1) + 1) + 1) + 1))])), ((t 1), .inl (E.2.2.1, 120, .inl (x 0))), ((t 2), .inl (E.2.2.1, 60, .inl (x 1))), ((t 3), .inl (E.2.1, 180, .inl (upd (x 2) (3 * nc + K) (0 - (((10 * (((10 * ((0 + (atP (x 0) L (cu + 1))) - 48)) + (atP (x 0) L ((cu + 1) + 1))) - 48)) + (atP (x 0) L (((cu + 1) + 1) + 1))) - 48)))))]) (lv1 := [(5, .int 3), (4, .int (((10 * (((10 * ((0 + (atP (x 0) L (cu + 1))) - 48)) + (atP (x 0) L ((cu + 1) + 1))) - 48)) + (atP (x 0) L (((cu + 1) + 1) + 1))) - 48)), (3, .int (if ngP (x 0) L cu sg then 1 else 0)), (0, .ref (t 0)), (1, .int pl), (2, .int sg)]) (st1 := [.int (atP (x 0) L ((((cu + 1) + 1) + 1) + 1))]) rfl rfl rfl ?_
          refine x_callSI (wc := []) (wr := [((t 0), .inr (1, [.ref (t 1), .ref (t 2), .ref (t 3), .int (x 3 0), .int (x 3 1), .int (nI ((((cu + 1) + 1) + 1) + 1))])), ((t 1), .inl (E.2.2.1, 120, .inl (x 0))), ((t 2), .inl (E.2.2.1, 60, .inl (x 1))), ((t 3), .inl (E.2.1, 180, .inl (upd (x 2) (3 * nc + K) (0 - (((10 * (((10 * ((0 + (atP (x 0) L (cu + 1))) - 48)) + (atP (x 0) L ((cu + 1) + 1))) - 48)) + (atP (x 0) L (((cu + 1) + 1) + 1))) - 48)))))]) (As := [.int (atP (x 0) L ((((cu + 1) + 1) + 1) + 1))]) (rest := []) C (c_X1_isDigit l E (atP (x 0) L ((((cu + 1) + 1) + 1) + 1)) ) (gWS C kw_ml_X1_62 kw_st_X1_isDigit kw_ini_X1 kw_code_X1_isDigit ga_X1_isDigit ⟨Nat.le_of_ble_eq_true rfl, Nat.le_of_ble_eq_true rfl⟩) [] [0, 1, 2, 3] [0, 1, 2, 3] rfl rfl rfl rfl (by decide) (fun _ => [((t 0), .inr (1, [.ref (t 1), .ref (t 2), .ref (t 3), .int (x 3 0), .int (x 3 1), .int (nI ((((cu + 1) + 1) + 1) + 1))])), ((t 1), .inl (E.2.2.1, 120, .inl (x 0))), ((t 2), .inl (E.2.2.1, 60, .inl (x 1))), ((t 3), .inl (E.2.1, 180, .inl (upd (x 2) (3 * nc + K) (0 - (((10 * (((10 * ((0 + (atP (x 0) L (cu + 1))) - 48)) + (atP (x 0) L ((cu + 1) + 1))) - 48)) + (atP (x 0) L (((cu + 1) + 1) + 1))) - 48)))))]) rfl (fun _ => rfl) rfl (Nat.le_of_ble_eq_true rfl) ⟨Nat.le_of_ble_eq_true rfl, Nat.le_of_ble_eq_true rfl⟩ rfl dX1_readNumber_120 (fun r_61 _ e_62 => ?_)
          subst e_62
          refine x_ifB_ne (tgt := 130) C dX1_readNumber_123 (by decide) (fun c_123 => ?_) (fun c_123 => ?_)
          · refine x_iconst (v := 0) C dX1_readNumber_130 (by decide) ?_
            have e1 : nS (x 0) L cu sg = cu + 1 := by unfold nS; rw [if_pos c_20]
            have e2 : nD (x 0) L (cu + 1) = 3 := by unfold nD; rw [if_pos c_52, if_pos c_52_2, if_pos c_52_3]
            have e3 : nVal (x 0) L cu sg = (0 - (((10 * (((10 * ((0 + (atP (x 0) L (cu + 1))) - 48)) + (atP (x 0) L ((cu + 1) + 1))) - 48)) + (atP (x 0) L (((cu + 1) + 1) + 1))) - 48)) := by unfold nVal; rw [if_pos c_20, e1]; unfold nV; rw [if_pos c_52, if_pos c_52_2, if_pos c_52_3]
            have e4 : nE (x 0) L cu sg = (cu + 1) + 3 := by unfold nE; rw [e1, e2]
            have e5 : ¬ nOk (x 0) L cu sg := by
              intro z; have z1 := z.2; rw [e4] at z1; exact z1 c_123
            exact x_iret C hr hlocks rfl () (by rw [if_neg e5]) (by rw [e3, e4]; exact gEq.rf _) dX1_readNumber_131
          · refine x_iconst (v := 1) C dX1_readNumber_126 (by decide) ?_
            refine x_goto (tgt := 131) C dX1_readNumber_127 (by decide) ?_
            have e1 : nS (x 0) L cu sg = cu + 1 := by unfold nS; rw [if_pos c_20]
            have e2 : nD (x 0) L (cu + 1) = 3 := by unfold nD; rw [if_pos c_52, if_pos c_52_2, if_pos c_52_3]
            have e3 : nVal (x 0) L cu sg = (0 - (((10 * (((10 * ((0 + (atP (x 0) L (cu + 1))) - 48)) + (atP (x 0) L ((cu + 1) + 1))) - 48)) + (atP (x 0) L (((cu + 1) + 1) + 1))) - 48)) := by unfold nVal; rw [if_pos c_20, e1]; unfold nV; rw [if_pos c_52, if_pos c_52_2, if_pos c_52_3]
            have e4 : nE (x 0) L cu sg = (cu + 1) + 3 := by unfold nE; rw [e1, e2]
            have e5 :  nOk (x 0) L cu sg := by
              exact ⟨by rw [e1, e2]; decide, by rw [e4]; exact c_123⟩
            exact x_iret C hr hlocks rfl () (by rw [if_pos e5]) (by rw [e3, e4]; exact gEq.rf _) dX1_readNumber_131
