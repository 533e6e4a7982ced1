theorem need_let {v : Int32} (h : ¬ f_X1_numbersNeeded_r v = -1) : v = 100 ∨ v = 107 ∨ v = 108 ∨ v = 109 ∨ v = 110 ∨ v = 114 ∨ v = 118 ∨ v = 120 := by
  unfold f_X1_numbersNeeded_r at h
  by_cases h1 : v = 100 <;> by_cases h2 : v = 107 <;> by_cases h3 : v = 108 <;> by_cases h4 : v = 109 <;> by_cases h5 : v = 110 <;> by_cases h6 : v = 114 <;> by_cases h7 : v = 118 <;> by_cases h8 : v = 120 <;> simp_all
/-- how many numbers a command's letter wants -/
def ndN (v : Int32) : Nat := (f_X1_numbersNeeded_r v).toNatClampNeg
theorem ndN_ok {v : Int32} (h : ¬ f_X1_numbersNeeded_r v = -1) : ndN v ≤ 3 ∧ f_X1_numbersNeeded_r v = nI (ndN v) := by
  rcases need_let h with rfl | rfl | rfl | rfl | rfl | rfl | rfl | rfl <;> decide
theorem let_byte {v : Int32} (h : ¬ f_X1_numbersNeeded_r v = -1) : vp_nar .byte v.toInt8.toInt32 = v := by
  rcases need_let h with rfl | rfl | rfl | rfl | rfl | rfl | rfl | rfl <;> rfl
def sgP (lt : Int32) (i : Nat) : Int32 := if (lt = 118 ∧ (nI i) = 1) ∨ (lt = 108 ∧ (nI i) = 2) then 1 else 0
/-- the numbers and the semicolon of a command with the letter lt: j numbers to come, the next is number i, from place p on -/
def rcP (f : Nat → Int32) (L : Nat) (lt : Int32) : Nat → Nat → Nat → Bool × Nat
  | 0, _, p => if atP f L (skip f L p) = 59 then (true, skip f L p + 1) else (false, skip f L p)
  | j + 1, i, p => if nOk f L (skip f L p) (sgP lt i) then rcP f L lt j (i + 1) (nE f L (skip f L p) (sgP lt i)) else (false, nE f L (skip f L p) (sgP lt i))
theorem rcP_0 (f : Nat → Int32) (L : Nat) (lt : Int32) (i p : Nat) : rcP f L lt 0 i p = if atP f L (skip f L p) = 59 then (true, skip f L p + 1) else (false, skip f L p) := rfl
theorem rcP_s (f : Nat → Int32) (L : Nat) (lt : Int32) (j i p : Nat) : rcP f L lt (j + 1) i p = if nOk f L (skip f L p) (sgP lt i) then rcP f L lt j (i + 1) (nE f L (skip f L p) (sgP lt i)) else (false, nE f L (skip f L p) (sgP lt i)) := rfl
/-- a command at place cu: does it stand, and where the cursor halts -/
def rcT (f : Nat → Int32) (L cu : Nat) : Bool × Nat := if f_X1_numbersNeeded_r (atP f L cu) = (-1) then (false, cu) else rcP f L (atP f L cu) (ndN (atP f L cu)) 0 (cu + 1)
def npP (f : Nat → Int32) (L : Nat) (lt : Int32) (p0 : Nat) : Nat → Nat
  | 0 => p0
  | i + 1 => nE f L (skip f L (npP f L lt p0 i)) (sgP lt i)
def nvP (f : Nat → Int32) (L : Nat) (lt : Int32) (p0 i : Nat) : Int32 := nVal f L (skip f L (npP f L lt p0 i)) (sgP lt i)
/-- what readCommand leaves: f the bytes, x the text before, u behind, at place cu, nc commands before -/
def rcQ (x u : Nat → Nat → Int32) (L cu nc : Nat) : Prop := u 0 = x 0 ∧ u 3 0 = x 3 0 ∧ u 3 2 = nI (rcT (x 0) L cu).2 ∧ ((rcT (x 0) L cu).1 = true → u 3 1 = nI (nc + 1) ∧ u 1 nc = atP (x 0) L cu ∧ ∀ k, k < ndN (atP (x 0) L cu) → u 2 (3 * nc + k) = nvP (x 0) L (atP (x 0) L cu) (cu + 1) k) ∧ (∀ i, i < nc → u 1 i = x 1 i) ∧ (∀ j, j < 3 * nc → u 2 j = x 2 j)
theorem skip_b {f : Nat → Int32} {L p B : Nat} (h : p ≤ B) (hL : L ≤ B) : skip f L p ≤ B := by rcases skip_le f L p with z | z <;> omega
theorem atP_lt {f : Nat → Int32} {L p : Nat} (h : ¬ atP f L p = -1) : p < L := by
  rcases Nat.lt_or_ge p L with z | z
  · exact z
  · exact absurd (by unfold atP; rw [if_neg (by omega)]) h
theorem upd_ext {nr g : Nat → Int32} {B i : Nat} {v : Int32} (h : ∀ k, k < i → nr (B + k) = g k) (hv : v = g i) : ∀ k, k < i + 1 → upd nr (B + i) v (B + k) = g k := by
  intro k hk
  unfold upd
  by_cases z : k = i
  · subst z; rw [if_pos rfl, hv]
  · rw [if_neg (by omega)]; exact h k (by omega)
theorem upd_low {nr g : Nat → Int32} {B i : Nat} {v : Int32} (h : ∀ j, j < B → nr j = g j) (hi : B ≤ i) : ∀ j, j < B → upd nr i v j = g j := by
  intro j hj
  unfold upd
  rw [if_neg (by omega)]; exact h j hj
theorem nI_lt60 {k n : Nat} (h : ¬ nI n ≤ nI k) (hk : k ≤ n) (hn : n < 2 ^ 31) : k < n := by
  rcases Nat.lt_or_ge k n with z | z
  · exact z
  · exact absurd (nI_le z (by omega)) h
set_option maxHeartbeats 4000000 in
set_option maxRecDepth 100000 in
theorem c_X1_readCommand (l : Launch) (E : gE) (t : Nat → Nat) (x : Nat → Nat → Int32) (L : Nat) (cu : Nat) (nc : Nat) (hL : x 3 0 = nI L) (hL2 : L ≤ 120) (hc : x 3 2 = nI cu) (hcu : cu ≤ 200) (hnc : x 3 1 = nI nc) (hn6 : nc < 60) : CtI l E yX1_readCommand prog_3_method_8_code 4 (some .boolean) 2 45 0 0 [.ref (t 0)] [((t 0), .inr (1, [.ref (t 1), .ref (t 2), .ref (t 3), .int (x 3 0), .int (x 3 1), .int (x 3 2)])), ((t 1), .inl (E.2.2.1, 120, .inl (x 0))), ((t 2), .inl (E.2.2.1, 60, .inl (x 1))), ((t 3), .inl (E.2.1, 180, .inl (x 2)))] (fun r (u : Nat → Nat → Int32) => (r = if (rcT (x 0) L cu).1 = true then 1 else 0) ∧ rcQ x u L cu nc) (fun u => [((t 0), .inr (1, [.ref (t 1), .ref (t 2), .ref (t 3), .int (u 3 0), .int (u 3 1), .int (u 3 2)])), ((t 1), .inl (E.2.2.1, 120, .inl (u 0))), ((t 2), .inl (E.2.2.1, 60, .inl (u 1))), ((t 3), .inl (E.2.1, 180, .inl (u 2)))]) := by
  refine CtI.start (by decide) (Nat.le_of_ble_eq_true rfl) ?_
  intro p_ e_ s_ m_ below_ meth_ c_ A_ C hr hlocks hnm
  refine Wd.cast (lv1 := [(0, .ref (t 0))]) rfl rfl rfl ?_
  refine Wd.cast (w1 := [((t 0), .inr (1, [.ref (t 1), .ref (t 2), .ref (t 3), .int (x 3 0), .int (x 3 1), .int (nI cu)])), ((t 1), .inl (E.2.2.1, 120, .inl (x 0))), ((t 2), .inl (E.2.2.1, 60, .inl (x 1))), ((t 3), .inl (E.2.1, 180, .inl (x 2)))]) (lv1 := [(0, .ref (t 0))]) (by rw [hc]) rfl rfl ?_
  refine x_aload_n C dX1_readCommand_0 0 rfl ?_
  refine x_callVI (wc := [((t 0), .inr (1, [.ref (t 1), .ref (t 2), .ref (t 3), .int (x 3 0), .int (x 3 1), .int (nI cu)])), ((t 1), .inl (E.2.2.1, 120, .inl (x 0))), ((t 2), .inl (E.2.2.1, 60, .inl (x 1))), ((t 3), .inl (E.2.1, 180, .inl (x 2)))]) (wr := []) (As := []) (rest := []) (ci := 1) (q0 := 0) C (c_X1_byteAtCursor l E t (rs x 3 2 (nI cu)) L cu hL hL2 rfl (by omega)) (gWV C kw_ml_X1_46 kw_im_X1_byteAtCursor kw_sel_X1_byteAtCursor kw_ini_X1 kw_code_X1_byteAtCursor ga_X1_byteAtCursor ⟨Nat.le_of_ble_eq_true rfl, Nat.le_of_ble_eq_true rfl⟩) rfl rfl [0, 1, 2, 3] [] [0, 1, 2, 3] rfl rfl rfl rfl (by decide) (fun _ => [((t 0), .inr (1, [.ref (t 1), .ref (t 2), .ref (t 3), .int (x 3 0), .int (x 3 1), .int (nI cu)])), ((t 1), .inl (E.2.2.1, 120, .inl (x 0))), ((t 2), .inl (E.2.2.1, 60, .inl (x 1))), ((t 3), .inl (E.2.1, 180, .inl (x 2)))]) rfl (fun _ => rfl) rfl (Nat.le_of_ble_eq_true rfl) ⟨Nat.le_of_ble_eq_true rfl, Nat.le_of_ble_eq_true rfl⟩ rfl dX1_readCommand_1 (fun r_1 _ e_2 => ?_)
  subst e_2
  refine Wd.cast (w1 := [((t 0), .inr (1, [.ref (t 1), .ref (t 2), .ref (t 3), .int (x 3 0), .int (x 3 1), .int (nI cu)])), ((t 1), .inl (E.2.2.1, 120, .inl (x 0))), ((t 2), .inl (E.2.2.1, 60, .inl (x 1))), ((t 3), .inl (E.2.1, 180, .inl (x 2)))]) (lv1 := [(0, .ref (t 0))]) (st1 := [.int (atP (x 0) L cu)]) rfl rfl rfl ?_
  refine x_istore_n (lv1 := [(1, .int (atP (x 0) L cu)), (0, .ref (t 0))]) C dX1_readCommand_4 (by decide) rfl ?_
  refine x_iload_n C dX1_readCommand_5 0 rfl ?_
  refine x_callSI (wc := []) (wr := [((t 0), .inr (1, [.ref (t 1), .ref (t 2), .ref (t 3), .int (x 3 0), .int (x 3 1), .int (nI cu)])), ((t 1), .inl (E.2.2.1, 120, .inl (x 0))), ((t 2), .inl (E.2.2.1, 60, .inl (x 1))), ((t 3), .inl (E.2.1, 180, .inl (x 2)))]) (As := [.int (atP (x 0) L cu)]) (rest := []) C (c_X1_numbersNeeded l E (atP (x 0) L cu) ) (gWS C kw_ml_X1_50 kw_st_X1_numbersNeeded kw_ini_X1 kw_code_X1_numbersNeeded ga_X1_numbersNeeded ⟨Nat.le_of_ble_eq_true rfl, Nat.le_of_ble_eq_true rfl⟩) [] [0, 1, 2, 3] [0, 1, 2, 3] rfl rfl rfl rfl (by decide) (fun _ => [((t 0), .inr (1, [.ref (t 1), .ref (t 2), .ref (t 3), .int (x 3 0), .int (x 3 1), .int (nI cu)])), ((t 1), .inl (E.2.2.1, 120, .inl (x 0))), ((t 2), .inl (E.2.2.1, 60, .inl (x 1))), ((t 3), .inl (E.2.1, 180, .inl (x 2)))]) rfl (fun _ => rfl) rfl (Nat.le_of_ble_eq_true rfl) ⟨Nat.le_of_ble_eq_true rfl, Nat.le_of_ble_eq_true rfl⟩ rfl dX1_readCommand_6 (fun r_3 _ e_4 => ?_)
  subst e_4
  refine x_istore_n (lv1 := [(2, .int (f_X1_numbersNeeded_r (atP (x 0) L cu))), (1, .int (atP (x 0) L cu)), (0, .ref (t 0))]) C dX1_readCommand_9 (by decide) rfl ?_
  refine x_iload_n C dX1_readCommand_10 0 rfl ?_
  refine x_iconst (v := (-1)) C dX1_readCommand_11 (by decide) ?_
  refine x_icmp_eq (tgt := 24) C dX1_readCommand_12 (by decide) (fun c_12 => ?_) (fun c_12 => ?_)
  · refine x_iconst (v := 0) C dX1_readCommand_24 (by decide) ?_
    have hT : rcT (x 0) L cu = (false, cu) := by unfold rcT; rw [if_pos c_12]
    have hu : rcQ x (rs x 3 2 (nI cu)) L cu nc := by
      refine ⟨rfl, rfl, ?_, ?_, ?_, ?_⟩
      · rw [hT]; rfl
      · rw [hT]; intro z; exact absurd (show false = true from z) (by decide)
      · intro j hj; rfl
      · intro j hj; rfl
    exact x_iret C hr hlocks rfl (rs x 3 2 (nI cu)) ⟨by rw [hT]; rfl, hu⟩ (gEq.rf _) dX1_readCommand_25
  · refine x_aload_n C dX1_readCommand_15 2 rfl ?_
    refine x_get (ref := "RomSearchBus$CommandText") (v := .int (x 3 1)) C inX1 0 4 rfl rfl (by decide) kw_fl_X1_26 rfl rfl dX1_readCommand_16 ?_
    refine x_bipush (v := 60) C dX1_readCommand_19 (by decide) ?_
    refine x_icmp_lt (tgt := 26) C dX1_readCommand_21 (by decide) (fun c_21 => ?_) (fun c_21 => absurd (show x 3 1 < nI 60 from (by rw [hnc]; exact nI_lt hn6 (by decide))) c_21)
    have hne := c_12
    have hd := ndN_ok hne
    have hd3 := hd.1
    refine x_aload_n C dX1_readCommand_26 2 rfl ?_
    refine x_dup C dX1_readCommand_27 rfl ?_
    refine x_get (ref := "RomSearchBus$CommandText") (v := .int (nI cu)) C inX1 0 5 rfl rfl (by decide) kw_fl_X1_29 rfl rfl dX1_readCommand_28 ?_
    refine x_iconst (v := 1) C dX1_readCommand_31 (by decide) ?_
    refine x_iadd C dX1_readCommand_32 ?_
    refine Wd.cast (w1 := [((t 0), .inr (1, [.ref (t 1), .ref (t 2), .ref (t 3), .int (x 3 0), .int (x 3 1), .int (nI cu)])), ((t 1), .inl (E.2.2.1, 120, .inl (x 0))), ((t 2), .inl (E.2.2.1, 60, .inl (x 1))), ((t 3), .inl (E.2.1, 180, .inl (x 2)))]) (lv1 := [(2, .int (f_X1_numbersNeeded_r (atP (x 0) L cu))), (1, .int (atP (x 0) L cu)), (0, .ref (t 0))]) (st1 := [.int (nI (cu + 1)), .ref (t 0)]) rfl rfl (by rw [nI_1]) ?_
    refine x_put (ref := "RomSearchBus$CommandText") C inX1 tyX1 tyX1_ok nmX1 0 5 rfl rfl (by decide) kw_fl_X1_29 rfl rfl rfl rfl (Nat.le_of_ble_eq_true rfl) [((t 0), .inr (1, [.ref (t 1), .ref (t 2), .ref (t 3), .int (x 3 0), .int (x 3 1), .int (nI (cu + 1))])), ((t 1), .inl (E.2.2.1, 120, .inl (x 0))), ((t 2), .inl (E.2.2.1, 60, .inl (x 1))), ((t 3), .inl (E.2.1, 180, .inl (x 2)))] rfl dX1_readCommand_33 ?_
    refine x_aload_n C dX1_readCommand_36 2 rfl ?_
    refine x_get (ref := "RomSearchBus$CommandText") (v := .ref (t 2)) C inX1 0 1 rfl rfl (by decide) kw_fl_X1_15 rfl rfl dX1_readCommand_37 ?_
    refine x_aload_n C dX1_readCommand_40 2 rfl ?_
    refine x_get (ref := "RomSearchBus$CommandText") (v := .int (x 3 1)) C inX1 0 4 rfl rfl (by decide) kw_fl_X1_26 rfl rfl dX1_readCommand_41 ?_
    refine x_iload_n C dX1_readCommand_44 1 rfl ?_
    refine x_i2b C dX1_readCommand_45 ?_
    refine x_bastN C 2 rfl hnc (by omega) (by decide) [((t 0), .inr (1, [.ref (t 1), .ref (t 2), .ref (t 3), .int (x 3 0), .int (x 3 1), .int (nI (cu + 1))])), ((t 1), .inl (E.2.2.1, 120, .inl (x 0))), ((t 2), .inl (E.2.2.1, 60, .inl (upd (x 1) nc (vp_nar .byte ((atP (x 0) L cu).toInt8.toInt32))))), ((t 3), .inl (E.2.1, 180, .inl (x 2)))] rfl dX1_readCommand_46 ?_
    refine x_iconst (v := 0) C dX1_readCommand_47 (by decide) ?_
    refine x_istore_n (lv1 := [(3, .int 0), (2, .int (f_X1_numbersNeeded_r (atP (x 0) L cu))), (1, .int (atP (x 0) L cu)), (0, .ref (t 0))]) C dX1_readCommand_48 (by decide) rfl ?_
    refine Wd.locs (lv1 := [(0, .ref (t 0)), (1, .int (atP (x 0) L cu)), (2, .int (f_X1_numbersNeeded_r (atP (x 0) L cu))), (3, .int 0)]) [3, 2, 1, 0] rfl ?_
    refine Wd.cast (w1 := [((t 0), .inr (1, [.ref (t 1), .ref (t 2), .ref (t 3), .int (x 3 0), .int (x 3 1), .int (nI (cu + 1))])), ((t 1), .inl (E.2.2.1, 120, .inl (x 0))), ((t 2), .inl (E.2.2.1, 60, .inl (upd (x 1) nc (vp_nar .byte (atP (x 0) L cu).toInt8.toInt32)))), ((t 3), .inl (E.2.1, 180, .inl (x 2)))]) (lv1 := [(0, .ref (t 0)), (1, .int (atP (x 0) L cu)), (2, .int (f_X1_numbersNeeded_r (atP (x 0) L cu))), (3, .int (nI 0))]) rfl rfl rfl ?_
    refine Wd.wh3 (W1 := fun (i : Nat) (p : Nat) (nr : Nat → Int32) => [((t 0), .inr (1, [.ref (t 1), .ref (t 2), .ref (t 3), .int (x 3 0), .int (x 3 1), .int (nI p)])), ((t 1), .inl (E.2.2.1, 120, .inl (x 0))), ((t 2), .inl (E.2.2.1, 60, .inl (upd (x 1) nc (vp_nar .byte (atP (x 0) L cu).toInt8.toInt32)))), ((t 3), .inl (E.2.1, 180, .inl nr))]) (LV := fun (i : Nat) (p : Nat) (nr : Nat → Int32) => [(0, .ref (t 0)), (1, .int (atP (x 0) L cu)), (2, .int (f_X1_numbersNeeded_r (atP (x 0) L cu))), (3, .int (nI i))]) (fun (i : Nat) (p : Nat) (nr : Nat → Int32) => i ≤ ndN (atP (x 0) L cu) ∧ rcP (x 0) L (atP (x 0) L cu) (ndN (atP (x 0) L cu) - i) i p = rcT (x 0) L cu ∧ p = npP (x 0) L (atP (x 0) L cu) (cu + 1) i ∧ (∀ k, k < i → nr (3 * nc + k) = nvP (x 0) L (atP (x 0) L cu) (cu + 1) k) ∧ (∀ j, j < 3 * nc → nr j = x 2 j) ∧ p ≤ 300 + 10 * i) (fun (i : Nat) (p : Nat) (nr : Nat → Int32) => ndN (atP (x 0) L cu) - i) 0 (cu + 1) (x 2) (⟨by omega, by unfold rcT; rw [if_neg hne, Nat.sub_zero], rfl, fun k hk => absurd hk (Nat.not_lt_zero _), fun _ _ => rfl, by omega⟩) (fun i p nr hI ih => ?_)
    refine Wd.cast (w1 := [((t 0), .inr (1, [.ref (t 1), .ref (t 2), .ref (t 3), .int (x 3 0), .int (x 3 1), .int (nI p)])), ((t 1), .inl (E.2.2.1, 120, .inl (x 0))), ((t 2), .inl (E.2.2.1, 60, .inl (upd (x 1) nc (vp_nar .byte (atP (x 0) L cu).toInt8.toInt32)))), ((t 3), .inl (E.2.1, 180, .inl nr))]) (lv1 := [(0, .ref (t 0)), (1, .int (atP (x 0) L cu)), (2, .int (f_X1_numbersNeeded_r (atP (x 0) L cu))), (3, .int (nI i))]) rfl rfl rfl ?_
    obtain ⟨hI1, hI2, hI3, hN, hM, hB⟩ := hI
    have hq1 : skip (x 0) L p ≤ 300 + 10 * i := skip_b hB (by omega)
    refine x_iload_n C dX1_readCommand_49 3 rfl ?_
    refine x_iload_n C dX1_readCommand_50 2 rfl ?_
    refine x_icmp_ge (tgt := 79) C dX1_readCommand_51 (by decide) (fun c_51 => ?_) (fun c_51 => ?_)
    · have hge : ndN (atP (x 0) L cu) ≤ i := nI_geN hd.2 rfl (by omega) (by omega) c_51
      refine x_aload_n C dX1_readCommand_79 0 rfl ?_
      refine x_callVV (wc := [((t 0), .inr (1, [.ref (t 1), .ref (t 2), .ref (t 3), .int (x 3 0), .int (x 3 1), .int (nI p)])), ((t 1), .inl (E.2.2.1, 120, .inl (x 0))), ((t 2), .inl (E.2.2.1, 60, .inl (upd (x 1) nc (vp_nar .byte (atP (x 0) L cu).toInt8.toInt32)))), ((t 3), .inl (E.2.1, 180, .inl nr))]) (wr := []) (As := []) (rest := []) (ci := 1) (q0 := 0) C (c_X1_skipSpaces l E t (rs (va_up (va_up x 1 (upd (x 1) nc (vp_nar .byte (atP (x 0) L cu).toInt8.toInt32))) 2 nr) 3 2 (nI p)) L p hL hL2 rfl (by omega)) (gWV C kw_ml_X1_40 kw_im_X1_skipSpaces kw_sel_X1_skipSpaces kw_ini_X1 kw_code_X1_skipSpaces ga_X1_skipSpaces ⟨Nat.le_of_ble_eq_true rfl, Nat.le_of_ble_eq_true rfl⟩) rfl rfl [0, 1, 2, 3] [] [0, 1, 2, 3] rfl rfl rfl rfl (by decide) (fun _ => [((t 0), .inr (1, [.ref (t 1), .ref (t 2), .ref (t 3), .int (x 3 0), .int (x 3 1), .int (nI (skip (x 0) L p))])), ((t 1), .inl (E.2.2.1, 120, .inl (x 0))), ((t 2), .inl (E.2.2.1, 60, .inl (upd (x 1) nc (vp_nar .byte (atP (x 0) L cu).toInt8.toInt32)))), ((t 3), .inl (E.2.1, 180, .inl nr))]) rfl (fun _ => rfl) rfl (Nat.le_of_ble_eq_true rfl) ⟨Nat.le_of_ble_eq_true rfl, Nat.le_of_ble_eq_true rfl⟩ rfl dX1_readCommand_80 (fun _ e_6 => ?_)
      refine x_aload_n C dX1_readCommand_83 0 rfl ?_
      refine x_callVI (wc := [((t 0), .inr (1, [.ref (t 1), .ref (t 2), .ref (t 3), .int (x 3 0), .int (x 3 1), .int (nI (skip (x 0) L p))])), ((t 1), .inl (E.2.2.1, 120, .inl (x 0))), ((t 2), .inl (E.2.2.1, 60, .inl (upd (x 1) nc (vp_nar .byte (atP (x 0) L cu).toInt8.toInt32)))), ((t 3), .inl (E.2.1, 180, .inl nr))]) (wr := []) (As := []) (rest := []) (ci := 1) (q0 := 0) C (c_X1_byteAtCursor l E t (rs (va_up (va_up x 1 (upd (x 1) nc (vp_nar .byte (atP (x 0) L cu).toInt8.toInt32))) 2 nr) 3 2 (nI (skip (x 0) L p))) L (skip (x 0) L p) hL hL2 rfl (by omega)) (gWV C kw_ml_X1_46 kw_im_X1_byteAtCursor kw_sel_X1_byteAtCursor kw_ini_X1 kw_code_X1_byteAtCursor ga_X1_byteAtCursor ⟨Nat.le_of_ble_eq_true rfl, Nat.le_of_ble_eq_true rfl⟩) rfl rfl [0, 1, 2, 3] [] [0, 1, 2, 3] rfl rfl rfl rfl (by decide) (fun _ => [((t 0), .inr (1, [.ref (t 1), .ref (t 2), .ref (t 3), .int (x 3 0), .int (x 3 1), .int (nI (skip (x 0) L p))])), ((t 1), .inl (E.2.2.1, 120, .inl (x 0))), ((t 2), .inl (E.2.2.1, 60, .inl (upd (x 1) nc (vp_nar .byte (atP (x 0) L cu).toInt8.toInt32)))), ((t 3), .inl (E.2.1, 180, .inl nr))]) rfl (fun _ => rfl) rfl (Nat.le_of_ble_eq_true rfl) ⟨Nat.le_of_ble_eq_true rfl, Nat.le_of_ble_eq_true rfl⟩ rfl dX1_readCommand_84 (fun r_7 _ e_8 => ?_)
      subst e_8
      refine Wd.cast (w1 := [((t 0), .inr (1, [.ref (t 1), .ref (t 2), .ref (t 3), .int (x 3 0), .int (x 3 1), .int (nI (skip (x 0) L p))])), ((t 1), .inl (E.2.2.1, 120, .inl (x 0))), ((t 2), .inl (E.2.2.1, 60, .inl (upd (x 1) nc (vp_nar .byte (atP (x 0) L cu).toInt8.toInt32)))), ((t 3), .inl (E.2.1, 180, .inl nr))]) (lv1 := [(0, .ref (t 0)), (1, .int (atP (x 0) L cu)), (2, .int (f_X1_numbersNeeded_r (atP (x 0) L cu))), (3, .int (nI i))]) (st1 := [.int (atP (x 0) L (skip (x 0) L p))]) rfl rfl rfl ?_
      refine x_bipush (v := 59) C dX1_readCommand_87 (by decide) ?_
      refine x_icmp_eq (tgt := 94) C dX1_readCommand_89 (by decide) (fun c_89 => ?_) (fun c_89 => ?_)
      · refine x_aload_n C dX1_readCommand_94 0 rfl ?_
        refine x_dup C dX1_readCommand_95 rfl ?_
        refine x_get (ref := "RomSearchBus$CommandText") (v := .int (nI (skip (x 0) L p))) C inX1 0 5 rfl rfl (by decide) kw_fl_X1_29 rfl rfl dX1_readCommand_96 ?_
        refine x_iconst (v := 1) C dX1_readCommand_99 (by decide) ?_
        refine x_iadd C dX1_readCommand_100 ?_
        refine Wd.cast (w1 := [((t 0), .inr (1, [.ref (t 1), .ref (t 2), .ref (t 3), .int (x 3 0), .int (x 3 1), .int (nI (skip (x 0) L p))])), ((t 1), .inl (E.2.2.1, 120, .inl (x 0))), ((t 2), .inl (E.2.2.1, 60, .inl (upd (x 1) nc (vp_nar .byte (atP (x 0) L cu).toInt8.toInt32)))), ((t 3), .inl (E.2.1, 180, .inl nr))]) (lv1 := [(0, .ref (t 0)), (1, .int (atP (x 0) L cu)), (2, .int (f_X1_numbersNeeded_r (atP (x 0) L cu))), (3, .int (nI i))]) (st1 := [.int (nI ((skip (x 0) L p) + 1)), .ref (t 0)]) rfl rfl (by rw [nI_1]) ?_
        refine x_put (ref := "RomSearchBus$CommandText") C inX1 tyX1 tyX1_ok nmX1 0 5 rfl rfl (by decide) kw_fl_X1_29 rfl rfl rfl rfl (Nat.le_of_ble_eq_true rfl) [((t 0), .inr (1, [.ref (t 1), .ref (t 2), .ref (t 3), .int (x 3 0), .int (x 3 1), .int (nI ((skip (x 0) L p) + 1))])), ((t 1), .inl (E.2.2.1, 120, .inl (x 0))), ((t 2), .inl (E.2.2.1, 60, .inl (upd (x 1) nc (vp_nar .byte (atP (x 0) L cu).toInt8.toInt32)))), ((t 3), .inl (E.2.1, 180, .inl nr))] rfl dX1_readCommand_101 ?_
        refine x_aload_n C dX1_readCommand_104 0 rfl ?_
        refine x_dup C dX1_readCommand_105 rfl ?_
        refine x_get (ref := "RomSearchBus$CommandText") (v := .int (x 3 1)) C inX1 0 4 rfl rfl (by decide) kw_fl_X1_26 rfl rfl dX1_readCommand_106 ?_
        refine x_iconst (v := 1) C dX1_readCommand_109 (by decide) ?_
        refine x_iadd C dX1_readCommand_110 ?_
        refine x_put (ref := "RomSearchBus$CommandText") C inX1 tyX1 tyX1_ok nmX1 0 4 rfl rfl (by decide) kw_fl_X1_26 rfl rfl rfl rfl (Nat.le_of_ble_eq_true rfl) [((t 0), .inr (1, [.ref (t 1), .ref (t 2), .ref (t 3), .int (x 3 0), .int ((x 3 1) + 1), .int (nI ((skip (x 0) L p) + 1))])), ((t 1), .inl (E.2.2.1, 120, .inl (x 0))), ((t 2), .inl (E.2.2.1, 60, .inl (upd (x 1) nc (vp_nar .byte (atP (x 0) L cu).toInt8.toInt32)))), ((t 3), .inl (E.2.1, 180, .inl nr))] rfl dX1_readCommand_111 ?_
        refine x_iconst (v := 1) C dX1_readCommand_114 (by decide) ?_
        have hT : rcT (x 0) L cu = (true, skip (x 0) L p + 1) := by rw [← hI2, show ndN (atP (x 0) L cu) - i = 0 by omega, rcP_0, if_pos c_89]
        have hnd : ndN (atP (x 0) L cu) = i := by omega
        have hu : rcQ x (rs (rs (va_up (va_up x 1 (upd (x 1) nc (vp_nar .byte (atP (x 0) L cu).toInt8.toInt32))) 2 nr) 3 2 (nI ((skip (x 0) L p) + 1))) 3 1 ((x 3 1) + 1)) L cu nc := by
          refine ⟨rfl, rfl, ?_, ?_, ?_, ?_⟩
          · rw [hT]; rfl
          · intro _
            refine ⟨?_, ?_, ?_⟩
            · show (x 3 1) + 1 = _; rw [hnc]; exact nI_1 _
            · show (if nc = nc then _ else _) = _; rw [if_pos rfl]; exact let_byte c_12
            · intro k hk; rw [hnd] at hk; exact hN k hk
          · intro j hj; show (if j = nc then _ else _) = _; rw [if_neg (by omega)]
          · exact hM
        exact x_iret C hr hlocks rfl (rs (rs (va_up (va_up x 1 (upd (x 1) nc (vp_nar .byte (atP (x 0) L cu).toInt8.toInt32))) 2 nr) 3 2 (nI ((skip (x 0) L p) + 1))) 3 1 ((x 3 1) + 1)) ⟨by rw [hT]; rfl, hu⟩ (gEq.rf _) dX1_readCommand_115
      · refine x_iconst (v := 0) C dX1_readCommand_92 (by decide) ?_
        have hT : rcT (x 0) L cu = (false, skip (x 0) L p) := by rw [← hI2, show ndN (atP (x 0) L cu) - i = 0 by omega, rcP_0, if_neg c_89]
        have hu : rcQ x (rs (va_up (va_up x 1 (upd (x 1) nc (vp_nar .byte (atP (x 0) L cu).toInt8.toInt32))) 2 nr) 3 2 (nI (skip (x 0) L p))) L cu nc := by
          refine ⟨rfl, rfl, ?_, ?_, ?_, ?_⟩
          · rw [hT]; rfl
          · rw [hT]; intro z; exact absurd (show false = true from z) (by decide)
          · intro j hj; show (if j = nc then _ else _) = _; rw [if_neg (by omega)]
          · exact hM
        exact x_iret C hr hlocks rfl (rs (va_up (va_up x 1 (upd (x 1) nc (vp_nar .byte (atP (x 0) L cu).toInt8.toInt32))) 2 nr) 3 2 (nI (skip (x 0) L p))) ⟨by rw [hT]; rfl, hu⟩ (gEq.rf _) dX1_readCommand_93
    · have hlt : i < ndN (atP (x 0) L cu) := nI_lt60 (by rw [← hd.2]; exact c_51) hI1 (by omega)
      refine x_aload_n C dX1_readCommand_54 0 rfl ?_
      refine x_callVV (wc := [((t 0), .inr (1, [.ref (t 1), .ref (t 2), .ref (t 3), .int (x 3 0), .int (x 3 1), .int (nI p)])), ((t 1), .inl (E.2.2.1, 120, .inl (x 0))), ((t 2), .inl (E.2.2.1, 60, .inl (upd (x 1) nc (vp_nar .byte (atP (x 0) L cu).toInt8.toInt32)))), ((t 3), .inl (E.2.1, 180, .inl nr))]) (wr := []) (As := []) (rest := []) (ci := 1) (q0 := 0) C (c_X1_skipSpaces l E t (rs (va_up (va_up x 1 (upd (x 1) nc (vp_nar .byte (atP (x 0) L cu).toInt8.toInt32))) 2 nr) 3 2 (nI p)) L p hL hL2 rfl (by omega)) (gWV C kw_ml_X1_40 kw_im_X1_skipSpaces kw_sel_X1_skipSpaces kw_ini_X1 kw_code_X1_skipSpaces ga_X1_skipSpaces ⟨Nat.le_of_ble_eq_true rfl, Nat.le_of_ble_eq_true rfl⟩) rfl rfl [0, 1, 2, 3] [] [0, 1, 2, 3] rfl rfl rfl rfl (by decide) (fun _ => [((t 0), .inr (1, [.ref (t 1), .ref (t 2), .ref (t 3), .int (x 3 0), .int (x 3 1), .int (nI (skip (x 0) L p))])), ((t 1), .inl (E.2.2.1, 120, .inl (x 0))), ((t 2), .inl (E.2.2.1, 60, .inl (upd (x 1) nc (vp_nar .byte (atP (x 0) L cu).toInt8.toInt32)))), ((t 3), .inl (E.2.1, 180, .inl nr))]) rfl (fun _ => rfl) rfl (Nat.le_of_ble_eq_true rfl) ⟨Nat.le_of_ble_eq_true rfl, Nat.le_of_ble_eq_true rfl⟩ rfl dX1_readCommand_55 (fun _ e_10 => ?_)
      refine x_aload_n C dX1_readCommand_58 0 rfl ?_
      refine x_iload_n C dX1_readCommand_59 3 rfl ?_
      refine x_iload_n C dX1_readCommand_60 1 rfl ?_
      refine x_iload_n C dX1_readCommand_61 3 rfl ?_
      refine x_callSI (wc := []) (wr := [((t 0), .inr (1, [.ref (t 1), .ref (t 2), .ref (t 3), .int (x 3 0), .int (x 3 1), .int (nI (skip (x 0) L p))])), ((t 1), .inl (E.2.2.1, 120, .inl (x 0))), ((t 2), .inl (E.2.2.1, 60, .inl (upd (x 1) nc (vp_nar .byte (atP (x 0) L cu).toInt8.toInt32)))), ((t 3), .inl (E.2.1, 180, .inl nr))]) (As := [.int (atP (x 0) L cu), .int (nI i)]) (rest := [.int (nI i), .ref (t 0)]) C (c_X1_mayBeNegative l E (atP (x 0) L cu) (nI i) ) (gWS C kw_ml_X1_54 kw_st_X1_mayBeNegative kw_ini_X1 kw_code_X1_mayBeNegative ga_X1_mayBeNegative ⟨Nat.le_of_ble_eq_true rfl, Nat.le_of_ble_eq_true rfl⟩) [] [0, 1, 2, 3] [0, 1, 2, 3] rfl rfl rfl rfl (by decide) (fun _ => [((t 0), .inr (1, [.ref (t 1), .ref (t 2), .ref (t 3), .int (x 3 0), .int (x 3 1), .int (nI (skip (x 0) L p))])), ((t 1), .inl (E.2.2.1, 120, .inl (x 0))), ((t 2), .inl (E.2.2.1, 60, .inl (upd (x 1) nc (vp_nar .byte (atP (x 0) L cu).toInt8.toInt32)))), ((t 3), .inl (E.2.1, 180, .inl nr))]) rfl (fun _ => rfl) rfl (Nat.le_of_ble_eq_true rfl) ⟨Nat.le_of_ble_eq_true rfl, Nat.le_of_ble_eq_true rfl⟩ rfl dX1_readCommand_62 (fun r_11 _ e_12 => ?_)
      subst e_12
      refine Wd.cast (w1 := [((t 0), .inr (1, [.ref (t 1), .ref (t 2), .ref (t 3), .int (x 3 0), .int (x 3 1), .int (nI (skip (x 0) L p))])), ((t 1), .inl (E.2.2.1, 120, .inl (x 0))), ((t 2), .inl (E.2.2.1, 60, .inl (upd (x 1) nc (vp_nar .byte (atP (x 0) L cu).toInt8.toInt32)))), ((t 3), .inl (E.2.1, 180, .inl nr))]) (lv1 := [(0, .ref (t 0)), (1, .int (atP (x 0) L cu)), (2, .int (f_X1_numbersNeeded_r (atP (x 0) L cu))), (3, .int (nI i))]) (st1 := [.int (sgP (atP (x 0) L cu) i), .int (nI i), .ref (t 0)]) rfl rfl rfl ?_
      refine x_callVI (wc := [((t 0), .inr (1, [.ref (t 1), .ref (t 2), .ref (t 3), .int (x 3 0), .int (x 3 1), .int (nI (skip (x 0) L p))])), ((t 1), .inl (E.2.2.1, 120, .inl (x 0))), ((t 2), .inl (E.2.2.1, 60, .inl (upd (x 1) nc (vp_nar .byte (atP (x 0) L cu).toInt8.toInt32)))), ((t 3), .inl (E.2.1, 180, .inl nr))]) (wr := []) (As := [.int (nI i), .int (sgP (atP (x 0) L cu) i)]) (rest := []) (ci := 1) (q0 := 0) C (c_X1_readNumber l E t (rs (va_up (va_up x 1 (upd (x 1) nc (vp_nar .byte (atP (x 0) L cu).toInt8.toInt32))) 2 nr) 3 2 (nI (skip (x 0) L p))) (nI i) (sgP (atP (x 0) L cu) i) L (skip (x 0) L p) nc i hL hL2 rfl (by omega) hnc hn6 rfl (by omega) (by omega)) (gWV C kw_ml_X1_58 kw_im_X1_readNumber kw_sel_X1_readNumber kw_ini_X1 kw_code_X1_readNumber ga_X1_readNumber ⟨Nat.le_of_ble_eq_true rfl, Nat.le_of_ble_eq_true rfl⟩) rfl rfl [0, 1, 2, 3] [] [0, 1, 2, 3] rfl rfl rfl rfl (by decide) (fun _ => [((t 0), .inr (1, [.ref (t 1), .ref (t 2), .ref (t 3), .int (x 3 0), .int (x 3 1), .int (nI (nE (x 0) L (skip (x 0) L p) (sgP (atP (x 0) L cu) i)))])), ((t 1), .inl (E.2.2.1, 120, .inl (x 0))), ((t 2), .inl (E.2.2.1, 60, .inl (upd (x 1) nc (vp_nar .byte (atP (x 0) L cu).toInt8.toInt32)))), ((t 3), .inl (E.2.1, 180, .inl (upd nr (3 * nc + i) (nVal (x 0) L (skip (x 0) L p) (sgP (atP (x 0) L cu) i)))))]) rfl (fun _ => rfl) rfl (Nat.le_of_ble_eq_true rfl) ⟨Nat.le_of_ble_eq_true rfl, Nat.le_of_ble_eq_true rfl⟩ rfl dX1_readCommand_65 (fun r_13 _ e_14 => ?_)
      subst e_14
      refine Wd.cast (w1 := [((t 0), .inr (1, [.ref (t 1), .ref (t 2), .ref (t 3), .int (x 3 0), .int (x 3 1), .int (nI (nE (x 0) L (skip (x 0) L p) (sgP (atP (x 0) L cu) i)))])), ((t 1), .inl (E.2.2.1, 120, .inl (x 0))), ((t 2), .inl (E.2.2.1, 60, .inl (upd (x 1) nc (vp_nar .byte (atP (x 0) L cu).toInt8.toInt32)))), ((t 3), .inl (E.2.1, 180, .inl (upd nr (3 * nc + i) (nVal (x 0) L (skip (x 0) L p) (sgP (atP (x 0) L cu) i)))))]) (lv1 := [(0, .ref (t 0)), (1, .int (atP (x 0) L cu)), (2, .int (f_X1_numbersNeeded_r (atP (x 0) L cu))), (3, .int (nI i))]) (st1 := [.int (if nOk (x 0) L (skip (x 0) L p) (sgP (atP (x 0) L cu) i) then 1 else 0)]) rfl rfl rfl ?_
      refine x_ifB_ne (tgt := 73) C dX1_readCommand_68 (by decide) (fun c_68 => ?_) (fun c_68 => ?_)
      · refine x_iinc (j := 3) (v := (nI (i + 1))) (lv1 := [(3, .int (nI (i + 1))), (0, .ref (t 0)), (1, .int (atP (x 0) L cu)), (2, .int (f_X1_numbersNeeded_r (atP (x 0) L cu)))]) C dX1_readCommand_73 rfl (nI_1 _) (by decide) rfl ?_
        refine x_goto (tgt := 49) C dX1_readCommand_76 (by decide) ?_
        refine Wd.locs (lv1 := [(0, .ref (t 0)), (1, .int (atP (x 0) L cu)), (2, .int (f_X1_numbersNeeded_r (atP (x 0) L cu))), (3, .int (nI (i + 1)))]) [1, 2, 3, 0] rfl ?_
        exact Wd.cast (w1 := [((t 0), .inr (1, [.ref (t 1), .ref (t 2), .ref (t 3), .int (x 3 0), .int (x 3 1), .int (nI (nE (x 0) L (skip (x 0) L p) (sgP (atP (x 0) L cu) i)))])), ((t 1), .inl (E.2.2.1, 120, .inl (x 0))), ((t 2), .inl (E.2.2.1, 60, .inl (upd (x 1) nc (vp_nar .byte (atP (x 0) L cu).toInt8.toInt32)))), ((t 3), .inl (E.2.1, 180, .inl (upd nr (3 * nc + i) (nVal (x 0) L (skip (x 0) L p) (sgP (atP (x 0) L cu) i)))))]) (lv1 := [(0, .ref (t 0)), (1, .int (atP (x 0) L cu)), (2, .int (f_X1_numbersNeeded_r (atP (x 0) L cu))), (3, .int (nI (i + 1)))]) rfl rfl rfl (ih (i + 1) (nE (x 0) L (skip (x 0) L p) (sgP (atP (x 0) L cu) i)) (upd nr (3 * nc + i) (nVal (x 0) L (skip (x 0) L p) (sgP (atP (x 0) L cu) i))) (⟨by omega, by rw [← hI2, show ndN (atP (x 0) L cu) - i = (ndN (atP (x 0) L cu) - (i + 1)) + 1 by omega, rcP_s, if_pos c_68], by rw [hI3]; rfl, upd_ext hN (by rw [hI3]; rfl), upd_low hM (by omega), (by have z := (nE_le (x 0) L (skip (x 0) L p) (sgP (atP (x 0) L cu) i)).2; omega)⟩) (by omega))
      · refine x_iconst (v := 0) C dX1_readCommand_71 (by decide) ?_
        have hT : rcT (x 0) L cu = (false, nE (x 0) L (skip (x 0) L p) (sgP (atP (x 0) L cu) i)) := by rw [← hI2, show ndN (atP (x 0) L cu) - i = (ndN (atP (x 0) L cu) - i - 1) + 1 by omega, rcP_s, if_neg c_68]
        have hu : rcQ x (rs (rs (va_up (va_up x 1 (upd (x 1) nc (vp_nar .byte (atP (x 0) L cu).toInt8.toInt32))) 2 nr) 2 (3 * nc + i) (nVal (x 0) L (skip (x 0) L p) (sgP (atP (x 0) L cu) i))) 3 2 (nI (nE (x 0) L (skip (x 0) L p) (sgP (atP (x 0) L cu) i)))) L cu nc := by
          refine ⟨rfl, rfl, ?_, ?_, ?_, ?_⟩
          · rw [hT]; rfl
          · rw [hT]; intro z; exact absurd (show false = true from z) (by decide)
          · intro j hj; show (if j = nc then _ else _) = _; rw [if_neg (by omega)]
          · intro j hj; show (if j = 3 * nc + i then _ else _) = _; rw [if_neg (by omega)]; exact hM j hj
        exact x_iret C hr hlocks rfl (rs (rs (va_up (va_up x 1 (upd (x 1) nc (vp_nar .byte (atP (x 0) L cu).toInt8.toInt32))) 2 nr) 2 (3 * nc + i) (nVal (x 0) L (skip (x 0) L p) (sgP (atP (x 0) L cu) i))) 3 2 (nI (nE (x 0) L (skip (x 0) L p) (sgP (atP (x 0) L cu) i)))) ⟨by rw [hT]; rfl, hu⟩ (gEq.rf _) dX1_readCommand_72
