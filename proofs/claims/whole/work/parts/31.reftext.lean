def apR (y : Nat → Nat → Int32) (q : Int32) : Int32 := if 0 ≤ q ∧ q ≤ 127 then (if (y 7 2) = 120 then (-4) else ((y 7 2) + 1)) else (-2)
def apY (y : Nat → Nat → Int32) (q : Int32) (L : Nat) : Nat → Nat → Int32 := if 0 ≤ q ∧ q ≤ 127 then (if (y 7 2) = 120 then cntY y (-4) else rs (rs y 4 L q) 7 2 ((y 7 2) + 1)) else cntY y (-2)
theorem dgP_lt {f : Nat → Int32} {L p : Nat} (h : dgP f L p) : p < L := atP_lt (by
  intro z0
  have h1 := h.1
  rw [z0] at h1
  exact absurd h1 (by decide))
theorem atP_in {f : Nat → Int32} {L p : Nat} (h : p < L) : atP f L p = f p := if_pos h
set_option maxHeartbeats 4000000 in
set_option maxRecDepth 100000 in
theorem c_X6_append (l : Launch) (E : gE) (g : Nat → Nat) (y : Nat → Nat → Int32) (z : Int64) (q : Int32) (L : Nat) (ht : y 7 2 = nI L) (hL2 : L ≤ 120) : CtI l E yX6_append prog_8_method_53_code 2 (some .int) 1 22 0 0 [.ref (g 0), .int q] [((g 0), .inr (6, [.ref (g 1), .ref (g 2), .ref (g 3), .int (y 7 0), .ref (g 4), .int (y 7 1), .ref (g 5), .int (y 7 2), .int (y 7 3), .int (y 7 4), .int (y 7 5), .ref (g 6), .ref (g 7), .long z])), ((g 1), .inl (E.2.1, 47, .inl (y 0))), ((g 2), .inl (E.2.1, 47, .inl (y 1))), ((g 3), .inl (E.2.1, 235, .inl (y 2))), ((g 4), .inl (E.2.1, 8, .inl (y 3))), ((g 5), .inl (E.2.1, 120, .inl (y 4))), ((g 6), .inl (E.2.1, 60, .inl (y 5))), ((g 7), .inl (E.2.1, 180, .inl (y 6)))] (fun r (_ : Unit) => r = (apR y q)) (fun _ => [((g 0), .inr (6, [.ref (g 1), .ref (g 2), .ref (g 3), .int ((apY y q L) 7 0), .ref (g 4), .int ((apY y q L) 7 1), .ref (g 5), .int ((apY y q L) 7 2), .int ((apY y q L) 7 3), .int ((apY y q L) 7 4), .int ((apY y q L) 7 5), .ref (g 6), .ref (g 7), .long z])), ((g 1), .inl (E.2.1, 47, .inl ((apY y q L) 0))), ((g 2), .inl (E.2.1, 47, .inl ((apY y q L) 1))), ((g 3), .inl (E.2.1, 235, .inl ((apY y q L) 2))), ((g 4), .inl (E.2.1, 8, .inl ((apY y q L) 3))), ((g 5), .inl (E.2.1, 120, .inl ((apY y q L) 4))), ((g 6), .inl (E.2.1, 60, .inl ((apY y q L) 5))), ((g 7), .inl (E.2.1, 180, .inl ((apY y q L) 6)))]) := by
  refine CtI.start (by decide) (Nat.le_of_ble_eq_true rfl) ?_
  intro p_ e_ s_ m_ below_ meth_ c_ A_ C hr hlocks hnm
  refine Wd.cast (lv1 := [(0, .ref (g 0)), (1, .int q)]) rfl rfl rfl ?_
  refine x_iload_n C dX6_append_0 1 rfl ?_
  refine x_iconst (v := 0) C dX6_append_1 (by decide) ?_
  refine x_bipush (v := 127) C dX6_append_2 (by decide) ?_
  refine x_callSI (wc := []) (wr := [((g 0), .inr (6, [.ref (g 1), .ref (g 2), .ref (g 3), .int (y 7 0), .ref (g 4), .int (y 7 1), .ref (g 5), .int (y 7 2), .int (y 7 3), .int (y 7 4), .int (y 7 5), .ref (g 6), .ref (g 7), .long z])), ((g 1), .inl (E.2.1, 47, .inl (y 0))), ((g 2), .inl (E.2.1, 47, .inl (y 1))), ((g 3), .inl (E.2.1, 235, .inl (y 2))), ((g 4), .inl (E.2.1, 8, .inl (y 3))), ((g 5), .inl (E.2.1, 120, .inl (y 4))), ((g 6), .inl (E.2.1, 60, .inl (y 5))), ((g 7), .inl (E.2.1, 180, .inl (y 6)))]) (As := [.int q, .int 0, .int 127]) (rest := []) C (c_X6_in l E q 0 127 ) (gWS C kw_ml_X6_35 kw_st_X6_in kw_ini_X6 kw_code_X6_in ga_X6_in ⟨Nat.le_of_ble_eq_true rfl, Nat.le_of_ble_eq_true rfl⟩) [] [0, 1, 2, 3, 4, 5, 6, 7] [0, 1, 2, 3, 4, 5, 6, 7] rfl rfl rfl rfl (by decide) (fun _ => [((g 0), .inr (6, [.ref (g 1), .ref (g 2), .ref (g 3), .int (y 7 0), .ref (g 4), .int (y 7 1), .ref (g 5), .int (y 7 2), .int (y 7 3), .int (y 7 4), .int (y 7 5), .ref (g 6), .ref (g 7), .long z])), ((g 1), .inl (E.2.1, 47, .inl (y 0))), ((g 2), .inl (E.2.1, 47, .inl (y 1))), ((g 3), .inl (E.2.1, 235, .inl (y 2))), ((g 4), .inl (E.2.1, 8, .inl (y 3))), ((g 5), .inl (E.2.1, 120, .inl (y 4))), ((g 6), .inl (E.2.1, 60, .inl (y 5))), ((g 7), .inl (E.2.1, 180, .inl (y 6)))]) rfl (fun _ => rfl) rfl (Nat.le_of_ble_eq_true rfl) ⟨Nat.le_of_ble_eq_true rfl, Nat.le_of_ble_eq_true rfl⟩ rfl dX6_append_4 (fun r_1 _ e_2 => ?_)
  subst e_2
  refine x_ifB_ne (tgt := 17) C dX6_append_7 (by decide) (fun c_7 => ?_) (fun c_7 => ?_)
  · refine x_aload_n C dX6_append_17 0 rfl ?_
    refine x_get (ref := "RomSearchBusModel") (v := .int (y 7 2)) C inX6 0 7 rfl rfl (by decide) kw_fl_X6_135 rfl rfl dX6_append_18 ?_
    refine x_bipush (v := 120) C dX6_append_21 (by decide) ?_
    refine x_icmp_ne (tgt := 33) C dX6_append_23 (by decide) (fun c_23 => ?_) (fun c_23 => ?_)
    · refine x_aload_n C dX6_append_33 0 rfl ?_
      refine x_get (ref := "RomSearchBusModel") (v := .ref (g 5)) C inX6 0 6 rfl rfl (by decide) kw_fl_X6_22 rfl rfl dX6_append_34 ?_
      refine x_aload_n C dX6_append_37 0 rfl ?_
      refine x_get (ref := "RomSearchBusModel") (v := .int (y 7 2)) C inX6 0 7 rfl rfl (by decide) kw_fl_X6_135 rfl rfl dX6_append_38 ?_
      refine x_iload_n C dX6_append_41 1 rfl ?_
      refine x_iastN (K := L) C 5 rfl ht (by have z0 : ¬ L = 120 := fun z1 => c_23 (by rw [ht, z1]; rfl); omega) (by decide) [((g 0), .inr (6, [.ref (g 1), .ref (g 2), .ref (g 3), .int (y 7 0), .ref (g 4), .int (y 7 1), .ref (g 5), .int (y 7 2), .int (y 7 3), .int (y 7 4), .int (y 7 5), .ref (g 6), .ref (g 7), .long z])), ((g 1), .inl (E.2.1, 47, .inl (y 0))), ((g 2), .inl (E.2.1, 47, .inl (y 1))), ((g 3), .inl (E.2.1, 235, .inl (y 2))), ((g 4), .inl (E.2.1, 8, .inl (y 3))), ((g 5), .inl (E.2.1, 120, .inl (upd (y 4) L q))), ((g 6), .inl (E.2.1, 60, .inl (y 5))), ((g 7), .inl (E.2.1, 180, .inl (y 6)))] rfl dX6_append_42 ?_
      refine x_aload_n C dX6_append_43 0 rfl ?_
      refine x_dup C dX6_append_44 rfl ?_
      refine x_get (ref := "RomSearchBusModel") (v := .int (y 7 2)) C inX6 0 7 rfl rfl (by decide) kw_fl_X6_135 rfl rfl dX6_append_45 ?_
      refine x_iconst (v := 1) C dX6_append_48 (by decide) ?_
      refine x_iadd C dX6_append_49 ?_
      refine x_put (ref := "RomSearchBusModel") C inX6 tyX6 tyX6_ok nmX6 0 7 rfl rfl (by decide) kw_fl_X6_135 rfl rfl rfl rfl (Nat.le_of_ble_eq_true rfl) [((g 0), .inr (6, [.ref (g 1), .ref (g 2), .ref (g 3), .int (y 7 0), .ref (g 4), .int (y 7 1), .ref (g 5), .int ((y 7 2) + 1), .int (y 7 3), .int (y 7 4), .int (y 7 5), .ref (g 6), .ref (g 7), .long z])), ((g 1), .inl (E.2.1, 47, .inl (y 0))), ((g 2), .inl (E.2.1, 47, .inl (y 1))), ((g 3), .inl (E.2.1, 235, .inl (y 2))), ((g 4), .inl (E.2.1, 8, .inl (y 3))), ((g 5), .inl (E.2.1, 120, .inl (upd (y 4) L q))), ((g 6), .inl (E.2.1, 60, .inl (y 5))), ((g 7), .inl (E.2.1, 180, .inl (y 6)))] rfl dX6_append_50 ?_
      refine x_aload_n C dX6_append_53 0 rfl ?_
      refine x_get (ref := "RomSearchBusModel") (v := .int ((y 7 2) + 1)) C inX6 0 7 rfl rfl (by decide) kw_fl_X6_135 rfl rfl dX6_append_54 ?_
      exact x_iret C hr hlocks rfl () (Eq.symm (by unfold apR; rw [if_pos c_7, if_neg c_23])) (by rw [show apY y q L = (rs (rs y 4 L q) 7 2 ((y 7 2) + 1)) from (by unfold apY; rw [if_pos c_7, if_neg c_23])]; exact gEq.rf _) dX6_append_57
    · refine x_aload_n C dX6_append_26 0 rfl ?_
      refine x_bipush (v := (-4)) C dX6_append_27 (by decide) ?_
      refine x_callVI (wc := [((g 0), .inr (6, [.ref (g 1), .ref (g 2), .ref (g 3), .int (y 7 0), .ref (g 4), .int (y 7 1), .ref (g 5), .int (y 7 2), .int (y 7 3), .int (y 7 4), .int (y 7 5), .ref (g 6), .ref (g 7), .long z])), ((g 1), .inl (E.2.1, 47, .inl (y 0))), ((g 2), .inl (E.2.1, 47, .inl (y 1))), ((g 3), .inl (E.2.1, 235, .inl (y 2))), ((g 4), .inl (E.2.1, 8, .inl (y 3))), ((g 5), .inl (E.2.1, 120, .inl (y 4))), ((g 6), .inl (E.2.1, 60, .inl (y 5))), ((g 7), .inl (E.2.1, 180, .inl (y 6)))]) (wr := []) (As := [.int (-4)]) (rest := []) (ci := 6) (q0 := 0) C (c_X6_counted l E g y z (-4) (by decide)) (gWV C kw_ml_X6_43 kw_im_X6_counted kw_sel_X6_counted kw_ini_X6 kw_code_X6_counted ga_X6_counted ⟨Nat.le_of_ble_eq_true rfl, Nat.le_of_ble_eq_true rfl⟩) rfl rfl [0, 1, 2, 3, 4, 5, 6, 7] [] [0, 1, 2, 3, 4, 5, 6, 7] rfl rfl rfl rfl (by decide) (fun _ => [((g 0), .inr (6, [.ref (g 1), .ref (g 2), .ref (g 3), .int (y 7 0), .ref (g 4), .int (y 7 1), .ref (g 5), .int (y 7 2), .int (y 7 3), .int (y 7 4), .int (y 7 5), .ref (g 6), .ref (g 7), .long z])), ((g 1), .inl (E.2.1, 47, .inl (y 0))), ((g 2), .inl (E.2.1, 47, .inl (y 1))), ((g 3), .inl (E.2.1, 235, .inl (y 2))), ((g 4), .inl (E.2.1, 8, .inl (upd (y 3) (eK (-4)) ((y 3 (eK (-4))) + 1)))), ((g 5), .inl (E.2.1, 120, .inl (y 4))), ((g 6), .inl (E.2.1, 60, .inl (y 5))), ((g 7), .inl (E.2.1, 180, .inl (y 6)))]) rfl (fun _ => rfl) rfl (Nat.le_of_ble_eq_true rfl) ⟨Nat.le_of_ble_eq_true rfl, Nat.le_of_ble_eq_true rfl⟩ rfl dX6_append_29 (fun r_3 _ e_4 => ?_)
      subst e_4
      exact x_iret C hr hlocks rfl () (Eq.symm (by unfold apR; rw [if_pos c_7, if_pos c_23])) (by rw [show apY y q L = (rs y 3 (eK (-4)) ((y 3 (eK (-4))) + 1)) from (by unfold apY; rw [if_pos c_7, if_pos c_23]; rfl)]; exact gEq.rf _) dX6_append_32
  · refine x_aload_n C dX6_append_10 0 rfl ?_
    refine x_bipush (v := (-2)) C dX6_append_11 (by decide) ?_
    refine x_callVI (wc := [((g 0), .inr (6, [.ref (g 1), .ref (g 2), .ref (g 3), .int (y 7 0), .ref (g 4), .int (y 7 1), .ref (g 5), .int (y 7 2), .int (y 7 3), .int (y 7 4), .int (y 7 5), .ref (g 6), .ref (g 7), .long z])), ((g 1), .inl (E.2.1, 47, .inl (y 0))), ((g 2), .inl (E.2.1, 47, .inl (y 1))), ((g 3), .inl (E.2.1, 235, .inl (y 2))), ((g 4), .inl (E.2.1, 8, .inl (y 3))), ((g 5), .inl (E.2.1, 120, .inl (y 4))), ((g 6), .inl (E.2.1, 60, .inl (y 5))), ((g 7), .inl (E.2.1, 180, .inl (y 6)))]) (wr := []) (As := [.int (-2)]) (rest := []) (ci := 6) (q0 := 0) C (c_X6_counted l E g y z (-2) (by decide)) (gWV C kw_ml_X6_43 kw_im_X6_counted kw_sel_X6_counted kw_ini_X6 kw_code_X6_counted ga_X6_counted ⟨Nat.le_of_ble_eq_true rfl, Nat.le_of_ble_eq_true rfl⟩) rfl rfl [0, 1, 2, 3, 4, 5, 6, 7] [] [0, 1, 2, 3, 4, 5, 6, 7] rfl rfl rfl rfl (by decide) (fun _ => [((g 0), .inr (6, [.ref (g 1), .ref (g 2), .ref (g 3), .int (y 7 0), .ref (g 4), .int (y 7 1), .ref (g 5), .int (y 7 2), .int (y 7 3), .int (y 7 4), .int (y 7 5), .ref (g 6), .ref (g 7), .long z])), ((g 1), .inl (E.2.1, 47, .inl (y 0))), ((g 2), .inl (E.2.1, 47, .inl (y 1))), ((g 3), .inl (E.2.1, 235, .inl (y 2))), ((g 4), .inl (E.2.1, 8, .inl (upd (y 3) (eK (-2)) ((y 3 (eK (-2))) + 1)))), ((g 5), .inl (E.2.1, 120, .inl (y 4))), ((g 6), .inl (E.2.1, 60, .inl (y 5))), ((g 7), .inl (E.2.1, 180, .inl (y 6)))]) rfl (fun _ => rfl) rfl (Nat.le_of_ble_eq_true rfl) ⟨Nat.le_of_ble_eq_true rfl, Nat.le_of_ble_eq_true rfl⟩ rfl dX6_append_13 (fun r_5 _ e_6 => ?_)
    subst e_6
    exact x_iret C hr hlocks rfl () (Eq.symm (by unfold apR; rw [if_neg c_7])) (by rw [show apY y q L = (rs y 3 (eK (-2)) ((y 3 (eK (-2))) + 1)) from (by unfold apY; rw [if_neg c_7]; rfl)]; exact gEq.rf _) dX6_append_16
set_option maxHeartbeats 4000000 in
set_option maxRecDepth 100000 in
theorem c_X6_clearText (l : Launch) (E : gE) (g : Nat → Nat) (y : Nat → Nat → Int32) (z : Int64)  : CtI l E yX6_clearText prog_8_method_54_code 2 (some .int) 0 0 0 0 [.ref (g 0)] [((g 0), .inr (6, [.ref (g 1), .ref (g 2), .ref (g 3), .int (y 7 0), .ref (g 4), .int (y 7 1), .ref (g 5), .int (y 7 2), .int (y 7 3), .int (y 7 4), .int (y 7 5), .ref (g 6), .ref (g 7), .long z])), ((g 1), .inl (E.2.1, 47, .inl (y 0))), ((g 2), .inl (E.2.1, 47, .inl (y 1))), ((g 3), .inl (E.2.1, 235, .inl (y 2))), ((g 4), .inl (E.2.1, 8, .inl (y 3))), ((g 5), .inl (E.2.1, 120, .inl (y 4))), ((g 6), .inl (E.2.1, 60, .inl (y 5))), ((g 7), .inl (E.2.1, 180, .inl (y 6)))] (fun r (_ : Unit) => r = (y 7 2)) (fun _ => [((g 0), .inr (6, [.ref (g 1), .ref (g 2), .ref (g 3), .int (y 7 0), .ref (g 4), .int (y 7 1), .ref (g 5), .int 0, .int (y 7 3), .int (y 7 4), .int (y 7 5), .ref (g 6), .ref (g 7), .long z])), ((g 1), .inl (E.2.1, 47, .inl (y 0))), ((g 2), .inl (E.2.1, 47, .inl (y 1))), ((g 3), .inl (E.2.1, 235, .inl (y 2))), ((g 4), .inl (E.2.1, 8, .inl (y 3))), ((g 5), .inl (E.2.1, 120, .inl (y 4))), ((g 6), .inl (E.2.1, 60, .inl (y 5))), ((g 7), .inl (E.2.1, 180, .inl (y 6)))]) := by
  refine CtI.start (by decide) (Nat.le_of_ble_eq_true rfl) ?_
  intro p_ e_ s_ m_ below_ meth_ c_ A_ C hr hlocks hnm
  refine Wd.cast (lv1 := [(0, .ref (g 0))]) rfl rfl rfl ?_
  refine x_aload_n C dX6_clearText_0 0 rfl ?_
  refine x_get (ref := "RomSearchBusModel") (v := .int (y 7 2)) C inX6 0 7 rfl rfl (by decide) kw_fl_X6_135 rfl rfl dX6_clearText_1 ?_
  refine x_istore_n (lv1 := [(1, .int (y 7 2)), (0, .ref (g 0))]) C dX6_clearText_4 (by decide) rfl ?_
  refine x_aload_n C dX6_clearText_5 1 rfl ?_
  refine x_iconst (v := 0) C dX6_clearText_6 (by decide) ?_
  refine x_put (ref := "RomSearchBusModel") C inX6 tyX6 tyX6_ok nmX6 0 7 rfl rfl (by decide) kw_fl_X6_135 rfl rfl rfl rfl (Nat.le_of_ble_eq_true rfl) [((g 0), .inr (6, [.ref (g 1), .ref (g 2), .ref (g 3), .int (y 7 0), .ref (g 4), .int (y 7 1), .ref (g 5), .int 0, .int (y 7 3), .int (y 7 4), .int (y 7 5), .ref (g 6), .ref (g 7), .long z])), ((g 1), .inl (E.2.1, 47, .inl (y 0))), ((g 2), .inl (E.2.1, 47, .inl (y 1))), ((g 3), .inl (E.2.1, 235, .inl (y 2))), ((g 4), .inl (E.2.1, 8, .inl (y 3))), ((g 5), .inl (E.2.1, 120, .inl (y 4))), ((g 6), .inl (E.2.1, 60, .inl (y 5))), ((g 7), .inl (E.2.1, 180, .inl (y 6)))] rfl dX6_clearText_7 ?_
  refine x_iload_n C dX6_clearText_10 0 rfl ?_
  exact x_iret C hr hlocks rfl () rfl (gEq.rf _) dX6_clearText_11
set_option maxHeartbeats 4000000 in
set_option maxRecDepth 100000 in
theorem c_X6_here (l : Launch) (E : gE) (g : Nat → Nat) (y : Nat → Nat → Int32) (z : Int64) (L : Nat) (p : Nat) (ht : y 7 2 = nI L) (hL2 : L ≤ 120) (ha : y 7 3 = nI p) (hp : p < 1000) : CtI l E yX6_here prog_8_method_55_code 1 (some .int) 0 0 0 0 [.ref (g 0)] [((g 0), .inr (6, [.ref (g 1), .ref (g 2), .ref (g 3), .int (y 7 0), .ref (g 4), .int (y 7 1), .ref (g 5), .int (y 7 2), .int (y 7 3), .int (y 7 4), .int (y 7 5), .ref (g 6), .ref (g 7), .long z])), ((g 1), .inl (E.2.1, 47, .inl (y 0))), ((g 2), .inl (E.2.1, 47, .inl (y 1))), ((g 3), .inl (E.2.1, 235, .inl (y 2))), ((g 4), .inl (E.2.1, 8, .inl (y 3))), ((g 5), .inl (E.2.1, 120, .inl (y 4))), ((g 6), .inl (E.2.1, 60, .inl (y 5))), ((g 7), .inl (E.2.1, 180, .inl (y 6)))] (fun r (_ : Unit) => r = (atP (y 4) L (skip (y 4) L p))) (fun _ => [((g 0), .inr (6, [.ref (g 1), .ref (g 2), .ref (g 3), .int (y 7 0), .ref (g 4), .int (y 7 1), .ref (g 5), .int (y 7 2), .int (nI (skip (y 4) L p)), .int (y 7 4), .int (y 7 5), .ref (g 6), .ref (g 7), .long z])), ((g 1), .inl (E.2.1, 47, .inl (y 0))), ((g 2), .inl (E.2.1, 47, .inl (y 1))), ((g 3), .inl (E.2.1, 235, .inl (y 2))), ((g 4), .inl (E.2.1, 8, .inl (y 3))), ((g 5), .inl (E.2.1, 120, .inl (y 4))), ((g 6), .inl (E.2.1, 60, .inl (y 5))), ((g 7), .inl (E.2.1, 180, .inl (y 6)))]) := by
  refine CtI.start (by decide) (Nat.le_of_ble_eq_true rfl) ?_
  intro p_ e_ s_ m_ below_ meth_ c_ A_ C hr hlocks hnm
  refine Wd.cast (lv1 := [(0, .ref (g 0))]) rfl rfl rfl ?_
  have w_1 : (y 7 3) = (nI p) := ha
  refine Wd.cast (w1 := [((g 0), .inr (6, [.ref (g 1), .ref (g 2), .ref (g 3), .int (y 7 0), .ref (g 4), .int (y 7 1), .ref (g 5), .int (y 7 2), .int (nI p), .int (y 7 4), .int (y 7 5), .ref (g 6), .ref (g 7), .long z])), ((g 1), .inl (E.2.1, 47, .inl (y 0))), ((g 2), .inl (E.2.1, 47, .inl (y 1))), ((g 3), .inl (E.2.1, 235, .inl (y 2))), ((g 4), .inl (E.2.1, 8, .inl (y 3))), ((g 5), .inl (E.2.1, 120, .inl (y 4))), ((g 6), .inl (E.2.1, 60, .inl (y 5))), ((g 7), .inl (E.2.1, 180, .inl (y 6)))]) (lv1 := [(0, .ref (g 0))]) (by first | (rw [w_1]; done) | (rw [← w_1]; done) | simp only [w_1]) rfl rfl ?_
  refine Wd.wh1 (W1 := fun (q : Nat) => [((g 0), .inr (6, [.ref (g 1), .ref (g 2), .ref (g 3), .int (y 7 0), .ref (g 4), .int (y 7 1), .ref (g 5), .int (y 7 2), .int (nI q), .int (y 7 4), .int (y 7 5), .ref (g 6), .ref (g 7), .long z])), ((g 1), .inl (E.2.1, 47, .inl (y 0))), ((g 2), .inl (E.2.1, 47, .inl (y 1))), ((g 3), .inl (E.2.1, 235, .inl (y 2))), ((g 4), .inl (E.2.1, 8, .inl (y 3))), ((g 5), .inl (E.2.1, 120, .inl (y 4))), ((g 6), .inl (E.2.1, 60, .inl (y 5))), ((g 7), .inl (E.2.1, 180, .inl (y 6)))]) (LV := fun (q : Nat) => [(0, .ref (g 0))]) (fun (q : Nat) => q < 1000 ∧ skip (y 4) L q = skip (y 4) L p) (fun (q : Nat) => L - q) p (⟨hp, rfl⟩) (fun q hI ih => ?_)
  refine Wd.cast (w1 := [((g 0), .inr (6, [.ref (g 1), .ref (g 2), .ref (g 3), .int (y 7 0), .ref (g 4), .int (y 7 1), .ref (g 5), .int (y 7 2), .int (nI q), .int (y 7 4), .int (y 7 5), .ref (g 6), .ref (g 7), .long z])), ((g 1), .inl (E.2.1, 47, .inl (y 0))), ((g 2), .inl (E.2.1, 47, .inl (y 1))), ((g 3), .inl (E.2.1, 235, .inl (y 2))), ((g 4), .inl (E.2.1, 8, .inl (y 3))), ((g 5), .inl (E.2.1, 120, .inl (y 4))), ((g 6), .inl (E.2.1, 60, .inl (y 5))), ((g 7), .inl (E.2.1, 180, .inl (y 6)))]) (lv1 := [(0, .ref (g 0))]) rfl rfl rfl ?_
  have hq := hI.1
  refine x_aload_n C dX6_here_0 0 rfl ?_
  refine x_get (ref := "RomSearchBusModel") (v := .int (nI q)) C inX6 0 8 rfl rfl (by decide) kw_fl_X6_138 rfl rfl dX6_here_1 ?_
  refine x_aload_n C dX6_here_4 0 rfl ?_
  refine x_get (ref := "RomSearchBusModel") (v := .int (y 7 2)) C inX6 0 7 rfl rfl (by decide) kw_fl_X6_135 rfl rfl dX6_here_5 ?_
  refine x_icmp_ge (tgt := 38) C dX6_here_8 (by decide) (fun c_8 => ?_) (fun c_8 => ?_)
  · refine x_aload_n C dX6_here_38 0 rfl ?_
    refine x_get (ref := "RomSearchBusModel") (v := .int (nI q)) C inX6 0 8 rfl rfl (by decide) kw_fl_X6_138 rfl rfl dX6_here_39 ?_
    refine x_aload_n C dX6_here_42 0 rfl ?_
    refine x_get (ref := "RomSearchBusModel") (v := .int (y 7 2)) C inX6 0 7 rfl rfl (by decide) kw_fl_X6_135 rfl rfl dX6_here_43 ?_
    refine x_icmp_ge (tgt := 61) C dX6_here_46 (by decide) (fun c_46 => ?_) (fun c_46 => absurd c_8 c_46)
    refine x_iconst (v := (-1)) C dX6_here_61 (by decide) ?_
    have hz : skip (y 4) L q = q := skip_end (nI_geN ht rfl (by omega) (by omega) c_8)
    have hz2 : atP (y 4) L q = (-1) := (by unfold atP; rw [if_neg (by have z0 := nI_geN ht rfl (by omega) (by omega) c_8; omega)])
    exact x_iret C hr hlocks rfl () (by rw [← hI.2, hz, hz2]) (by rw [← hI.2, hz]; exact gEq.rf _) dX6_here_62
  · have hlt := nI_ltN ht rfl (by omega) (by omega) c_8
    refine x_aload_n C dX6_here_11 0 rfl ?_
    refine x_get (ref := "RomSearchBusModel") (v := .ref (g 5)) C inX6 0 6 rfl rfl (by decide) kw_fl_X6_22 rfl rfl dX6_here_12 ?_
    refine x_aload_n C dX6_here_15 0 rfl ?_
    refine x_get (ref := "RomSearchBusModel") (v := .int (nI q)) C inX6 0 8 rfl rfl (by decide) kw_fl_X6_138 rfl rfl dX6_here_16 ?_
    refine x_ialdN (K := q) (x := (y 4 q)) C 5 rfl rfl (by omega) (by decide) rfl dX6_here_19 ?_
    refine x_bipush (v := 32) C dX6_here_20 (by decide) ?_
    refine x_icmp_ne (tgt := 38) C dX6_here_22 (by decide) (fun c_22 => ?_) (fun c_22 => ?_)
    · refine x_aload_n C dX6_here_38 0 rfl ?_
      refine x_get (ref := "RomSearchBusModel") (v := .int (nI q)) C inX6 0 8 rfl rfl (by decide) kw_fl_X6_138 rfl rfl dX6_here_39 ?_
      refine x_aload_n C dX6_here_42 0 rfl ?_
      refine x_get (ref := "RomSearchBusModel") (v := .int (y 7 2)) C inX6 0 7 rfl rfl (by decide) kw_fl_X6_135 rfl rfl dX6_here_43 ?_
      refine x_icmp_ge (tgt := 61) C dX6_here_46 (by decide) (fun c_46 => absurd c_46 c_8) (fun c_46 => ?_)
      refine x_aload_n C dX6_here_49 0 rfl ?_
      refine x_get (ref := "RomSearchBusModel") (v := .ref (g 5)) C inX6 0 6 rfl rfl (by decide) kw_fl_X6_22 rfl rfl dX6_here_50 ?_
      refine x_aload_n C dX6_here_53 0 rfl ?_
      refine x_get (ref := "RomSearchBusModel") (v := .int (nI q)) C inX6 0 8 rfl rfl (by decide) kw_fl_X6_138 rfl rfl dX6_here_54 ?_
      refine x_ialdN (K := q) (x := (y 4 q)) C 5 rfl rfl (by omega) (by decide) rfl dX6_here_57 ?_
      refine x_goto (tgt := 62) C dX6_here_58 (by decide) ?_
      have hz : skip (y 4) L q = q := skip_ns c_22
      have hz2 : atP (y 4) L q = (y 4 q) := (by unfold atP; rw [if_pos hlt])
      exact x_iret C hr hlocks rfl () (by rw [← hI.2, hz, hz2]) (by rw [← hI.2, hz]; exact gEq.rf _) dX6_here_62
    · refine x_aload_n C dX6_here_25 0 rfl ?_
      refine x_dup C dX6_here_26 rfl ?_
      refine x_get (ref := "RomSearchBusModel") (v := .int (nI q)) C inX6 0 8 rfl rfl (by decide) kw_fl_X6_138 rfl rfl dX6_here_27 ?_
      refine x_iconst (v := 1) C dX6_here_30 (by decide) ?_
      refine x_iadd C dX6_here_31 ?_
      refine Wd.cast (w1 := [((g 0), .inr (6, [.ref (g 1), .ref (g 2), .ref (g 3), .int (y 7 0), .ref (g 4), .int (y 7 1), .ref (g 5), .int (y 7 2), .int (nI q), .int (y 7 4), .int (y 7 5), .ref (g 6), .ref (g 7), .long z])), ((g 1), .inl (E.2.1, 47, .inl (y 0))), ((g 2), .inl (E.2.1, 47, .inl (y 1))), ((g 3), .inl (E.2.1, 235, .inl (y 2))), ((g 4), .inl (E.2.1, 8, .inl (y 3))), ((g 5), .inl (E.2.1, 120, .inl (y 4))), ((g 6), .inl (E.2.1, 60, .inl (y 5))), ((g 7), .inl (E.2.1, 180, .inl (y 6)))]) (lv1 := [(0, .ref (g 0))]) (st1 := [.int (nI (q + 1)), .ref (g 0)]) rfl rfl (by rw [nI_1]) ?_
      refine x_put (ref := "RomSearchBusModel") C inX6 tyX6 tyX6_ok nmX6 0 8 rfl rfl (by decide) kw_fl_X6_138 rfl rfl rfl rfl (Nat.le_of_ble_eq_true rfl) [((g 0), .inr (6, [.ref (g 1), .ref (g 2), .ref (g 3), .int (y 7 0), .ref (g 4), .int (y 7 1), .ref (g 5), .int (y 7 2), .int (nI (q + 1)), .int (y 7 4), .int (y 7 5), .ref (g 6), .ref (g 7), .long z])), ((g 1), .inl (E.2.1, 47, .inl (y 0))), ((g 2), .inl (E.2.1, 47, .inl (y 1))), ((g 3), .inl (E.2.1, 235, .inl (y 2))), ((g 4), .inl (E.2.1, 8, .inl (y 3))), ((g 5), .inl (E.2.1, 120, .inl (y 4))), ((g 6), .inl (E.2.1, 60, .inl (y 5))), ((g 7), .inl (E.2.1, 180, .inl (y 6)))] rfl dX6_here_32 ?_
      refine x_goto (tgt := 0) C dX6_here_35 (by decide) ?_
      exact Wd.cast (w1 := [((g 0), .inr (6, [.ref (g 1), .ref (g 2), .ref (g 3), .int (y 7 0), .ref (g 4), .int (y 7 1), .ref (g 5), .int (y 7 2), .int (nI (q + 1)), .int (y 7 4), .int (y 7 5), .ref (g 6), .ref (g 7), .long z])), ((g 1), .inl (E.2.1, 47, .inl (y 0))), ((g 2), .inl (E.2.1, 47, .inl (y 1))), ((g 3), .inl (E.2.1, 235, .inl (y 2))), ((g 4), .inl (E.2.1, 8, .inl (y 3))), ((g 5), .inl (E.2.1, 120, .inl (y 4))), ((g 6), .inl (E.2.1, 60, .inl (y 5))), ((g 7), .inl (E.2.1, 180, .inl (y 6)))]) (lv1 := [(0, .ref (g 0))]) rfl rfl rfl (ih (q + 1) (⟨by omega, by rw [← hI.2, skip_sp hlt c_22]⟩) (by omega))
def rqY (y : Nat → Nat → Int32) (p : Nat) (q : Int32) : Nat → Nat → Int32 := if q = 0 then rs y 7 4 (nI p) else rs y 7 3 (nI (p + 1))
set_option maxHeartbeats 4000000 in
set_option maxRecDepth 100000 in
theorem c_X6_require (l : Launch) (E : gE) (g : Nat → Nat) (y : Nat → Nat → Int32) (z : Int64) (q : Int32) (p : Nat) (hs : y 7 4 = -1) (ha : y 7 3 = nI p) : CtV l E yX6_require prog_8_method_56_code 2 none 0 0 0 0 [.ref (g 0), .int q] [((g 0), .inr (6, [.ref (g 1), .ref (g 2), .ref (g 3), .int (y 7 0), .ref (g 4), .int (y 7 1), .ref (g 5), .int (y 7 2), .int (y 7 3), .int (y 7 4), .int (y 7 5), .ref (g 6), .ref (g 7), .long z])), ((g 1), .inl (E.2.1, 47, .inl (y 0))), ((g 2), .inl (E.2.1, 47, .inl (y 1))), ((g 3), .inl (E.2.1, 235, .inl (y 2))), ((g 4), .inl (E.2.1, 8, .inl (y 3))), ((g 5), .inl (E.2.1, 120, .inl (y 4))), ((g 6), .inl (E.2.1, 60, .inl (y 5))), ((g 7), .inl (E.2.1, 180, .inl (y 6)))] (fun _ : Unit => True) (fun _ => [((g 0), .inr (6, [.ref (g 1), .ref (g 2), .ref (g 3), .int ((rqY y p q) 7 0), .ref (g 4), .int ((rqY y p q) 7 1), .ref (g 5), .int ((rqY y p q) 7 2), .int ((rqY y p q) 7 3), .int ((rqY y p q) 7 4), .int ((rqY y p q) 7 5), .ref (g 6), .ref (g 7), .long z])), ((g 1), .inl (E.2.1, 47, .inl ((rqY y p q) 0))), ((g 2), .inl (E.2.1, 47, .inl ((rqY y p q) 1))), ((g 3), .inl (E.2.1, 235, .inl ((rqY y p q) 2))), ((g 4), .inl (E.2.1, 8, .inl ((rqY y p q) 3))), ((g 5), .inl (E.2.1, 120, .inl ((rqY y p q) 4))), ((g 6), .inl (E.2.1, 60, .inl ((rqY y p q) 5))), ((g 7), .inl (E.2.1, 180, .inl ((rqY y p q) 6)))]) := by
  refine CtV.start (by decide) (Nat.le_of_ble_eq_true rfl) ?_
  intro p_ e_ s_ m_ below_ meth_ c_ A_ C hr hlocks hnm
  refine Wd.cast (lv1 := [(0, .ref (g 0)), (1, .int q)]) rfl rfl rfl ?_
  refine x_aload_n C dX6_require_0 0 rfl ?_
  refine x_get (ref := "RomSearchBusModel") (v := .int (y 7 4)) C inX6 0 9 rfl rfl (by decide) kw_fl_X6_141 rfl rfl dX6_require_1 ?_
  refine x_if_ge (tgt := 32) C dX6_require_4 (by decide) (fun c_4 => absurd c_4 (by rw [hs]; decide)) (fun c_4 => ?_)
  refine x_iload_n C dX6_require_7 1 rfl ?_
  refine x_if_eq (tgt := 24) C dX6_require_8 (by decide) (fun c_8 => ?_) (fun c_8 => ?_)
  · refine x_aload_n C dX6_require_24 0 rfl ?_
    refine x_aload_n C dX6_require_25 0 rfl ?_
    refine x_get (ref := "RomSearchBusModel") (v := .int (y 7 3)) C inX6 0 8 rfl rfl (by decide) kw_fl_X6_138 rfl rfl dX6_require_26 ?_
    refine x_put (ref := "RomSearchBusModel") C inX6 tyX6 tyX6_ok nmX6 0 9 rfl rfl (by decide) kw_fl_X6_141 rfl rfl rfl rfl (Nat.le_of_ble_eq_true rfl) [((g 0), .inr (6, [.ref (g 1), .ref (g 2), .ref (g 3), .int (y 7 0), .ref (g 4), .int (y 7 1), .ref (g 5), .int (y 7 2), .int (y 7 3), .int (y 7 3), .int (y 7 5), .ref (g 6), .ref (g 7), .long z])), ((g 1), .inl (E.2.1, 47, .inl (y 0))), ((g 2), .inl (E.2.1, 47, .inl (y 1))), ((g 3), .inl (E.2.1, 235, .inl (y 2))), ((g 4), .inl (E.2.1, 8, .inl (y 3))), ((g 5), .inl (E.2.1, 120, .inl (y 4))), ((g 6), .inl (E.2.1, 60, .inl (y 5))), ((g 7), .inl (E.2.1, 180, .inl (y 6)))] rfl dX6_require_29 ?_
    exact x_vret C hr hlocks () trivial (by rw [show rqY y p q = rs y 7 4 (nI p) from if_pos c_8, ← ha]; exact gEq.rf _) dX6_require_32
  · refine x_aload_n C dX6_require_11 0 rfl ?_
    refine x_dup C dX6_require_12 rfl ?_
    refine x_get (ref := "RomSearchBusModel") (v := .int (y 7 3)) C inX6 0 8 rfl rfl (by decide) kw_fl_X6_138 rfl rfl dX6_require_13 ?_
    refine x_iconst (v := 1) C dX6_require_16 (by decide) ?_
    refine x_iadd C dX6_require_17 ?_
    refine x_put (ref := "RomSearchBusModel") C inX6 tyX6 tyX6_ok nmX6 0 8 rfl rfl (by decide) kw_fl_X6_138 rfl rfl rfl rfl (Nat.le_of_ble_eq_true rfl) [((g 0), .inr (6, [.ref (g 1), .ref (g 2), .ref (g 3), .int (y 7 0), .ref (g 4), .int (y 7 1), .ref (g 5), .int (y 7 2), .int ((y 7 3) + 1), .int (y 7 4), .int (y 7 5), .ref (g 6), .ref (g 7), .long z])), ((g 1), .inl (E.2.1, 47, .inl (y 0))), ((g 2), .inl (E.2.1, 47, .inl (y 1))), ((g 3), .inl (E.2.1, 235, .inl (y 2))), ((g 4), .inl (E.2.1, 8, .inl (y 3))), ((g 5), .inl (E.2.1, 120, .inl (y 4))), ((g 6), .inl (E.2.1, 60, .inl (y 5))), ((g 7), .inl (E.2.1, 180, .inl (y 6)))] rfl dX6_require_18 ?_
    refine x_goto (tgt := 32) C dX6_require_21 (by decide) ?_
    exact x_vret C hr hlocks () trivial (by rw [show rqY y p q = rs y 7 3 (nI (p + 1)) from if_neg c_8, ← nI_1, ← ha]; exact gEq.rf _) dX6_require_32
set_option maxHeartbeats 4000000 in
set_option maxRecDepth 100000 in
theorem c_X6_isDigit (l : Launch) (E : gE) (g : Nat → Nat) (y : Nat → Nat → Int32) (z : Int64) (L : Nat) (p : Nat) (ht : y 7 2 = nI L) (hL2 : L ≤ 120) (ha : y 7 3 = nI p) (hp : p < 1000) : CtI l E yX6_isDigit prog_8_method_57_code 1 (some .boolean) 1 22 0 0 [.ref (g 0)] [((g 0), .inr (6, [.ref (g 1), .ref (g 2), .ref (g 3), .int (y 7 0), .ref (g 4), .int (y 7 1), .ref (g 5), .int (y 7 2), .int (y 7 3), .int (y 7 4), .int (y 7 5), .ref (g 6), .ref (g 7), .long z])), ((g 1), .inl (E.2.1, 47, .inl (y 0))), ((g 2), .inl (E.2.1, 47, .inl (y 1))), ((g 3), .inl (E.2.1, 235, .inl (y 2))), ((g 4), .inl (E.2.1, 8, .inl (y 3))), ((g 5), .inl (E.2.1, 120, .inl (y 4))), ((g 6), .inl (E.2.1, 60, .inl (y 5))), ((g 7), .inl (E.2.1, 180, .inl (y 6)))] (fun r (_ : Unit) => r = (if dgP (y 4) L p then 1 else 0)) (fun _ => [((g 0), .inr (6, [.ref (g 1), .ref (g 2), .ref (g 3), .int (y 7 0), .ref (g 4), .int (y 7 1), .ref (g 5), .int (y 7 2), .int (y 7 3), .int (y 7 4), .int (y 7 5), .ref (g 6), .ref (g 7), .long z])), ((g 1), .inl (E.2.1, 47, .inl (y 0))), ((g 2), .inl (E.2.1, 47, .inl (y 1))), ((g 3), .inl (E.2.1, 235, .inl (y 2))), ((g 4), .inl (E.2.1, 8, .inl (y 3))), ((g 5), .inl (E.2.1, 120, .inl (y 4))), ((g 6), .inl (E.2.1, 60, .inl (y 5))), ((g 7), .inl (E.2.1, 180, .inl (y 6)))]) := by
  refine CtI.start (by decide) (Nat.le_of_ble_eq_true rfl) ?_
  intro p_ e_ s_ m_ below_ meth_ c_ A_ C hr hlocks hnm
  refine Wd.cast (lv1 := [(0, .ref (g 0))]) rfl rfl rfl ?_
  refine x_aload_n C dX6_isDigit_0 0 rfl ?_
  refine x_get (ref := "RomSearchBusModel") (v := .int (y 7 3)) C inX6 0 8 rfl rfl (by decide) kw_fl_X6_138 rfl rfl dX6_isDigit_1 ?_
  refine x_aload_n C dX6_isDigit_4 0 rfl ?_
  refine x_get (ref := "RomSearchBusModel") (v := .int (y 7 2)) C inX6 0 7 rfl rfl (by decide) kw_fl_X6_135 rfl rfl dX6_isDigit_5 ?_
  refine x_icmp_ge (tgt := 34) C dX6_isDigit_8 (by decide) (fun c_8 => ?_) (fun c_8 => ?_)
  · have hge := nI_geN ht ha (by omega) (by omega) c_8
    refine x_iconst (v := 0) C dX6_isDigit_34 (by decide) ?_
    exact x_iret C hr hlocks rfl () (if_neg (fun z0 => absurd (dgP_lt z0) (by omega))).symm (gEq.rf _) dX6_isDigit_35
  · have hlt := nI_ltN ht ha (by omega) (by omega) c_8
    refine x_aload_n C dX6_isDigit_11 0 rfl ?_
    refine x_get (ref := "RomSearchBusModel") (v := .ref (g 5)) C inX6 0 6 rfl rfl (by decide) kw_fl_X6_22 rfl rfl dX6_isDigit_12 ?_
    refine x_aload_n C dX6_isDigit_15 0 rfl ?_
    refine x_get (ref := "RomSearchBusModel") (v := .int (y 7 3)) C inX6 0 8 rfl rfl (by decide) kw_fl_X6_138 rfl rfl dX6_isDigit_16 ?_
    refine x_ialdN (K := p) (x := (y 4 p)) C 5 rfl ha (by omega) (by decide) rfl dX6_isDigit_19 ?_
    refine x_bipush (v := 48) C dX6_isDigit_20 (by decide) ?_
    refine x_bipush (v := 57) C dX6_isDigit_22 (by decide) ?_
    refine x_callSI (wc := []) (wr := [((g 0), .inr (6, [.ref (g 1), .ref (g 2), .ref (g 3), .int (y 7 0), .ref (g 4), .int (y 7 1), .ref (g 5), .int (y 7 2), .int (y 7 3), .int (y 7 4), .int (y 7 5), .ref (g 6), .ref (g 7), .long z])), ((g 1), .inl (E.2.1, 47, .inl (y 0))), ((g 2), .inl (E.2.1, 47, .inl (y 1))), ((g 3), .inl (E.2.1, 235, .inl (y 2))), ((g 4), .inl (E.2.1, 8, .inl (y 3))), ((g 5), .inl (E.2.1, 120, .inl (y 4))), ((g 6), .inl (E.2.1, 60, .inl (y 5))), ((g 7), .inl (E.2.1, 180, .inl (y 6)))]) (As := [.int (y 4 p), .int 48, .int 57]) (rest := []) C (c_X6_in l E (y 4 p) 48 57 ) (gWS C kw_ml_X6_35 kw_st_X6_in kw_ini_X6 kw_code_X6_in ga_X6_in ⟨Nat.le_of_ble_eq_true rfl, Nat.le_of_ble_eq_true rfl⟩) [] [0, 1, 2, 3, 4, 5, 6, 7] [0, 1, 2, 3, 4, 5, 6, 7] rfl rfl rfl rfl (by decide) (fun _ => [((g 0), .inr (6, [.ref (g 1), .ref (g 2), .ref (g 3), .int (y 7 0), .ref (g 4), .int (y 7 1), .ref (g 5), .int (y 7 2), .int (y 7 3), .int (y 7 4), .int (y 7 5), .ref (g 6), .ref (g 7), .long z])), ((g 1), .inl (E.2.1, 47, .inl (y 0))), ((g 2), .inl (E.2.1, 47, .inl (y 1))), ((g 3), .inl (E.2.1, 235, .inl (y 2))), ((g 4), .inl (E.2.1, 8, .inl (y 3))), ((g 5), .inl (E.2.1, 120, .inl (y 4))), ((g 6), .inl (E.2.1, 60, .inl (y 5))), ((g 7), .inl (E.2.1, 180, .inl (y 6)))]) rfl (fun _ => rfl) rfl (Nat.le_of_ble_eq_true rfl) ⟨Nat.le_of_ble_eq_true rfl, Nat.le_of_ble_eq_true rfl⟩ rfl dX6_isDigit_24 (fun r_1 _ e_2 => ?_)
    subst e_2
    refine x_ifB_eq (tgt := 34) C dX6_isDigit_27 (by decide) (fun c_27 => ?_) (fun c_27 => ?_)
    · refine x_iconst (v := 0) C dX6_isDigit_34 (by decide) ?_
      exact x_iret C hr hlocks rfl () (if_neg (by unfold dgP; rw [atP_in hlt]; exact c_27)).symm (gEq.rf _) dX6_isDigit_35
    · refine x_iconst (v := 1) C dX6_isDigit_30 (by decide) ?_
      refine x_goto (tgt := 35) C dX6_isDigit_31 (by decide) ?_
      exact x_iret C hr hlocks rfl () (if_pos (by unfold dgP; rw [atP_in hlt]; exact c_27)).symm (gEq.rf _) dX6_isDigit_35
