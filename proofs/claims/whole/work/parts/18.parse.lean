theorem rcP_ok (f : Nat → Int32) (L : Nat) (lt : Int32) : ∀ (j i p : Nat), (rcP f L lt j i p).1 = true → (rcP f L lt j i p).2 ≤ L ∧ p + 1 ≤ (rcP f L lt j i p).2
  | 0, i, p => by
    rw [rcP_0]
    by_cases h : atP f L (skip f L p) = 59
    · rw [if_pos h]; intro _
      have h1 : skip f L p < L := atP_lt (by rw [h]; decide)
      have h2 := skip_ge f L p
      exact ⟨h1, by show p + 1 ≤ skip f L p + 1; omega⟩
    · rw [if_neg h]; intro z; exact absurd (show false = true from z) (by decide)
  | j + 1, i, p => by
    rw [rcP_s]
    by_cases h : nOk f L (skip f L p) (sgP lt i)
    · rw [if_pos h]; intro z
      have h1 := rcP_ok f L lt j (i + 1) (nE f L (skip f L p) (sgP lt i)) z
      have h2 := skip_ge f L p
      have h3 := (nE_le f L (skip f L p) (sgP lt i)).1
      exact ⟨h1.1, by omega⟩
    · rw [if_neg h]; intro z; exact absurd (show false = true from z) (by decide)
theorem rcP_b (f : Nat → Int32) (L : Nat) (lt : Int32) : ∀ (j i p B : Nat), p ≤ B → L ≤ B → (rcP f L lt j i p).2 ≤ B + 4 * j + 1
  | 0, i, p, B, hp, hL => by
    rw [rcP_0]
    have h := skip_b (f := f) hp hL
    by_cases e : atP f L (skip f L p) = 59
    · rw [if_pos e]; show skip f L p + 1 ≤ _; omega
    · rw [if_neg e]; show skip f L p ≤ _; omega
  | j + 1, i, p, B, hp, hL => by
    rw [rcP_s]
    have h := skip_b (f := f) hp hL
    have h3 := (nE_le f L (skip f L p) (sgP lt i)).2
    by_cases e : nOk f L (skip f L p) (sgP lt i)
    · rw [if_pos e]
      have := rcP_b f L lt j (i + 1) (nE f L (skip f L p) (sgP lt i)) (B + 4) (by omega) (by omega)
      omega
    · rw [if_neg e]; show nE f L (skip f L p) (sgP lt i) ≤ _; omega
theorem rcT_ok {f : Nat → Int32} {L cu : Nat} (h : (rcT f L cu).1 = true) : (rcT f L cu).2 ≤ L ∧ cu + 2 ≤ (rcT f L cu).2 := by
  unfold rcT at h ⊢
  by_cases e : f_X1_numbersNeeded_r (atP f L cu) = (-1)
  · rw [if_pos e] at h; exact absurd (show false = true from h) (by decide)
  · rw [if_neg e] at h ⊢
    have := rcP_ok f L (atP f L cu) (ndN (atP f L cu)) 0 (cu + 1) h
    exact ⟨this.1, by omega⟩
theorem rcT_b {f : Nat → Int32} {L cu B : Nat} (h : cu + 1 ≤ B) (hL : L ≤ B) : (rcT f L cu).2 ≤ B + 13 := by
  unfold rcT
  by_cases e : f_X1_numbersNeeded_r (atP f L cu) = (-1)
  · rw [if_pos e]; show cu ≤ _; omega
  · rw [if_neg e]
    have := rcP_b f L (atP f L cu) (ndN (atP f L cu)) 0 (cu + 1) B h hL
    have := (ndN_ok e).1
    omega
/-- where command i begins -/
def cpP (f : Nat → Int32) (L : Nat) : Nat → Nat
  | 0 => skip f L 0
  | i + 1 => skip f L (rcT f L (cpP f L i)).2
/-- parsing on, with nc commands read: does the text stand, the error's place, the number of commands -/
def prG (f : Nat → Int32) (L : Nat) : Nat → Nat → Bool × Nat × Nat
  | 0, nc => (false, cpP f L nc, nc)
  | j + 1, nc => if (rcT f L (cpP f L nc)).1 = true then (if cpP f L (nc + 1) = L then (true, 0, nc + 1) else prG f L j (nc + 1)) else (false, (rcT f L (cpP f L nc)).2, nc)
theorem prG_0 (f : Nat → Int32) (L nc : Nat) : prG f L 0 nc = (false, cpP f L nc, nc) := rfl
theorem prG_s (f : Nat → Int32) (L j nc : Nat) : prG f L (j + 1) nc = if (rcT f L (cpP f L nc)).1 = true then (if cpP f L (nc + 1) = L then (true, 0, nc + 1) else prG f L j (nc + 1)) else (false, (rcT f L (cpP f L nc)).2, nc) := rfl
def prT (f : Nat → Int32) (L : Nat) : Bool × Nat × Nat := prG f L 60 0
/-- command i as it stands in the rows of u -/
def prI (f : Nat → Int32) (L : Nat) (u : Nat → Nat → Int32) (i : Nat) : Prop := u 1 i = atP f L (cpP f L i) ∧ ∀ k, k < ndN (atP f L (cpP f L i)) → u 2 (3 * i + k) = nvP f L (atP f L (cpP f L i)) (cpP f L i + 1) k
def prQ (x u : Nat → Nat → Int32) (L : Nat) : Prop := u 0 = x 0 ∧ u 3 0 = x 3 0 ∧ ((prT (x 0) L).1 = true → u 3 1 = nI (prT (x 0) L).2.2 ∧ (prT (x 0) L).2.2 ≤ 60 ∧ ∀ i, i < (prT (x 0) L).2.2 → prI (x 0) L u i)
theorem prI_next {f : Nat → Int32} {L nc : Nat} {x1 u : Nat → Nat → Int32} (hall : ∀ i, i < nc → prI f L x1 i) (h1 : u 1 nc = atP f L (cpP f L nc)) (h2 : ∀ k, k < ndN (atP f L (cpP f L nc)) → u 2 (3 * nc + k) = nvP f L (atP f L (cpP f L nc)) (cpP f L nc + 1) k) (h3 : ∀ i, i < nc → u 1 i = x1 1 i) (h4 : ∀ j, j < 3 * nc → u 2 j = x1 2 j) : ∀ i, i < nc + 1 → prI f L u i := by
  intro i hi
  rcases Nat.lt_succ_iff_lt_or_eq.mp hi with z | z
  · obtain ⟨a1, a2⟩ := hall i z
    refine ⟨by rw [h3 i z]; exact a1, fun k hk => ?_⟩
    have hk3 : k < 3 := by
      by_cases e : f_X1_numbersNeeded_r (atP f L (cpP f L i)) = (-1)
      · exfalso; unfold ndN at hk; rw [e] at hk; exact absurd hk (Nat.not_lt_zero _)
      · have := (ndN_ok e).1; omega
    rw [h4 _ (by omega)]; exact a2 k hk
  · subst z; exact ⟨h1, h2⟩
set_option maxHeartbeats 4000000 in
set_option maxRecDepth 100000 in
theorem c_X1_parse (l : Launch) (E : gE) (t : Nat → Nat) (x : Nat → Nat → Int32) (L : Nat) (hL : x 3 0 = nI L) (hL2 : L ≤ 120) : CtI l E yX1_parse prog_3_method_7_code 2 (some .int) 3 68 0 0 [.ref (t 0)] [((t 0), .inr (1, [.ref (t 1), .ref (t 2), .ref (t 3), .int (x 3 0), .int (x 3 1), .int (x 3 2)])), ((t 1), .inl (E.2.2.1, 120, .inl (x 0))), ((t 2), .inl (E.2.2.1, 60, .inl (x 1))), ((t 3), .inl (E.2.1, 180, .inl (x 2)))] (fun r (u : Nat → Nat → Int32) => (r = if (prT (x 0) L).1 = true then (-1) else nI (prT (x 0) L).2.1) ∧ prQ x u L) (fun u => [((t 0), .inr (1, [.ref (t 1), .ref (t 2), .ref (t 3), .int (u 3 0), .int (u 3 1), .int (u 3 2)])), ((t 1), .inl (E.2.2.1, 120, .inl (u 0))), ((t 2), .inl (E.2.2.1, 60, .inl (u 1))), ((t 3), .inl (E.2.1, 180, .inl (u 2)))]) := by
  refine CtI.start (by decide) (Nat.le_of_ble_eq_true rfl) ?_
  intro p_ e_ s_ m_ below_ meth_ c_ A_ C hr hlocks hnm
  refine Wd.cast (lv1 := [(0, .ref (t 0))]) rfl rfl rfl ?_
  refine x_aload_n C dX1_parse_0 0 rfl ?_
  refine x_iconst (v := 0) C dX1_parse_1 (by decide) ?_
  refine x_put (ref := "RomSearchBus$CommandText") C inX1 tyX1 tyX1_ok nmX1 0 4 rfl rfl (by decide) kw_fl_X1_26 rfl rfl rfl rfl (Nat.le_of_ble_eq_true rfl) [((t 0), .inr (1, [.ref (t 1), .ref (t 2), .ref (t 3), .int (x 3 0), .int 0, .int (x 3 2)])), ((t 1), .inl (E.2.2.1, 120, .inl (x 0))), ((t 2), .inl (E.2.2.1, 60, .inl (x 1))), ((t 3), .inl (E.2.1, 180, .inl (x 2)))] rfl dX1_parse_2 ?_
  refine x_aload_n C dX1_parse_5 0 rfl ?_
  refine x_iconst (v := 0) C dX1_parse_6 (by decide) ?_
  refine x_put (ref := "RomSearchBus$CommandText") C inX1 tyX1 tyX1_ok nmX1 0 5 rfl rfl (by decide) kw_fl_X1_29 rfl rfl rfl rfl (Nat.le_of_ble_eq_true rfl) [((t 0), .inr (1, [.ref (t 1), .ref (t 2), .ref (t 3), .int (x 3 0), .int 0, .int 0])), ((t 1), .inl (E.2.2.1, 120, .inl (x 0))), ((t 2), .inl (E.2.2.1, 60, .inl (x 1))), ((t 3), .inl (E.2.1, 180, .inl (x 2)))] rfl dX1_parse_7 ?_
  refine x_aload_n C dX1_parse_10 0 rfl ?_
  refine x_callVV (wc := [((t 0), .inr (1, [.ref (t 1), .ref (t 2), .ref (t 3), .int (x 3 0), .int 0, .int 0])), ((t 1), .inl (E.2.2.1, 120, .inl (x 0))), ((t 2), .inl (E.2.2.1, 60, .inl (x 1))), ((t 3), .inl (E.2.1, 180, .inl (x 2)))]) (wr := []) (As := []) (rest := []) (ci := 1) (q0 := 0) C (c_X1_skipSpaces l E t (rs (rs x 3 1 0) 3 2 0) L 0 hL hL2 rfl (by decide)) (gWV C kw_ml_X1_40 kw_im_X1_skipSpaces kw_sel_X1_skipSpaces kw_ini_X1 kw_code_X1_skipSpaces ga_X1_skipSpaces ⟨Nat.le_of_ble_eq_true rfl, Nat.le_of_ble_eq_true rfl⟩) rfl rfl [0, 1, 2, 3] [] [0, 1, 2, 3] rfl rfl rfl rfl (by decide) (fun _ => [((t 0), .inr (1, [.ref (t 1), .ref (t 2), .ref (t 3), .int (x 3 0), .int 0, .int (nI (skip (x 0) L 0))])), ((t 1), .inl (E.2.2.1, 120, .inl (x 0))), ((t 2), .inl (E.2.2.1, 60, .inl (x 1))), ((t 3), .inl (E.2.1, 180, .inl (x 2)))]) rfl (fun _ => rfl) rfl (Nat.le_of_ble_eq_true rfl) ⟨Nat.le_of_ble_eq_true rfl, Nat.le_of_ble_eq_true rfl⟩ rfl dX1_parse_11 (fun _ e_2 => ?_)
  refine x_iconst (v := 0) C dX1_parse_14 (by decide) ?_
  refine x_istore_n (lv1 := [(1, .int 0), (0, .ref (t 0))]) C dX1_parse_15 (by decide) rfl ?_
  refine Wd.locs (lv1 := [(0, .ref (t 0)), (1, .int 0)]) [1, 0] rfl ?_
  refine Wd.cast (w1 := [((t 0), .inr (1, [.ref (t 1), .ref (t 2), .ref (t 3), .int ((rs (rs x 3 1 0) 3 2 (nI (skip (x 0) L 0))) 3 0), .int ((rs (rs x 3 1 0) 3 2 (nI (skip (x 0) L 0))) 3 1), .int ((rs (rs x 3 1 0) 3 2 (nI (skip (x 0) L 0))) 3 2)])), ((t 1), .inl (E.2.2.1, 120, .inl ((rs (rs x 3 1 0) 3 2 (nI (skip (x 0) L 0))) 0))), ((t 2), .inl (E.2.2.1, 60, .inl ((rs (rs x 3 1 0) 3 2 (nI (skip (x 0) L 0))) 1))), ((t 3), .inl (E.2.1, 180, .inl ((rs (rs x 3 1 0) 3 2 (nI (skip (x 0) L 0))) 2)))]) (lv1 := [(0, .ref (t 0)), (1, .int (nI 0))]) rfl rfl rfl ?_
  refine Wd.wh2 (W1 := fun (nc : Nat) (x1 : Nat → Nat → Int32) => [((t 0), .inr (1, [.ref (t 1), .ref (t 2), .ref (t 3), .int (x1 3 0), .int (x1 3 1), .int (x1 3 2)])), ((t 1), .inl (E.2.2.1, 120, .inl (x1 0))), ((t 2), .inl (E.2.2.1, 60, .inl (x1 1))), ((t 3), .inl (E.2.1, 180, .inl (x1 2)))]) (LV := fun (nc : Nat) (x1 : Nat → Nat → Int32) => [(0, .ref (t 0)), (1, .int (nI nc))]) (fun (nc : Nat) (x1 : Nat → Nat → Int32) => nc ≤ 60 ∧ x1 0 = x 0 ∧ x1 3 0 = x 3 0 ∧ x1 3 1 = nI nc ∧ x1 3 2 = nI (cpP (x 0) L nc) ∧ cpP (x 0) L nc ≤ L ∧ prG (x 0) L (60 - nc) nc = prT (x 0) L ∧ (∀ i, i < nc → prI (x 0) L x1 i)) (fun (nc : Nat) (x1 : Nat → Nat → Int32) => 60 - nc) 0 (rs (rs x 3 1 0) 3 2 (nI (skip (x 0) L 0))) (⟨by decide, rfl, rfl, rfl, rfl, skip_b (Nat.zero_le _) (Nat.le_refl _), rfl, fun i hi => absurd hi (Nat.not_lt_zero _)⟩) (fun nc x1 hI ih => ?_)
  refine Wd.cast (w1 := [((t 0), .inr (1, [.ref (t 1), .ref (t 2), .ref (t 3), .int (x1 3 0), .int (x1 3 1), .int (x1 3 2)])), ((t 1), .inl (E.2.2.1, 120, .inl (x1 0))), ((t 2), .inl (E.2.2.1, 60, .inl (x1 1))), ((t 3), .inl (E.2.1, 180, .inl (x1 2)))]) (lv1 := [(0, .ref (t 0)), (1, .int (nI nc))]) rfl rfl rfl ?_
  obtain ⟨h60, hx0, hx3, hx31, hx32, hcp, hpr, hall⟩ := hI
  refine x_iload_n C dX1_parse_16 1 rfl ?_
  refine x_bipush (v := 60) C dX1_parse_17 (by decide) ?_
  refine x_icmp_ge (tgt := 52) C dX1_parse_19 (by decide) (fun c_19 => ?_) (fun c_19 => ?_)
  · have h60b : 60 ≤ nc := nI_geN (x := 60) (a := 60) rfl rfl (by decide) (by omega) c_19
    refine x_aload_n C dX1_parse_52 0 rfl ?_
    refine x_get (ref := "RomSearchBus$CommandText") (v := .int (x1 3 2)) C inX1 0 5 rfl rfl (by decide) kw_fl_X1_29 rfl rfl dX1_parse_53 ?_
    have hT : prT (x 0) L = (false, (cpP (x 0) L nc), nc) := by rw [← hpr, show 60 - nc = 0 by omega, prG_0]
    have hu : prQ x x1 L := ⟨hx0, hx3, fun z => absurd z (by rw [hT]; exact Bool.false_ne_true)⟩
    exact x_iret C hr hlocks rfl x1 ⟨by rw [hT]; exact hx32, hu⟩ (gEq.rf _) dX1_parse_56
  · have hlt : nc < 60 := nI_lt60 (n := 60) c_19 h60 (by decide)
    refine x_aload_n C dX1_parse_22 0 rfl ?_
    refine x_callVI (wc := [((t 0), .inr (1, [.ref (t 1), .ref (t 2), .ref (t 3), .int (x1 3 0), .int (x1 3 1), .int (x1 3 2)])), ((t 1), .inl (E.2.2.1, 120, .inl (x1 0))), ((t 2), .inl (E.2.2.1, 60, .inl (x1 1))), ((t 3), .inl (E.2.1, 180, .inl (x1 2)))]) (wr := []) (As := []) (rest := []) (ci := 1) (q0 := 0) C (c_X1_readCommand l E t x1 L (cpP (x 0) L nc) nc (by rw [hx3]; exact hL) hL2 hx32 (by omega) hx31 hlt) (gWV C kw_ml_X1_43 kw_im_X1_readCommand kw_sel_X1_readCommand kw_ini_X1 kw_code_X1_readCommand ga_X1_readCommand ⟨Nat.le_of_ble_eq_true rfl, Nat.le_of_ble_eq_true rfl⟩) rfl rfl [0, 1, 2, 3] [] [0, 1, 2, 3] rfl rfl rfl rfl (by decide) (fun u_3 => [((t 0), .inr (1, [.ref (t 1), .ref (t 2), .ref (t 3), .int (u_3 3 0), .int (u_3 3 1), .int (u_3 3 2)])), ((t 1), .inl (E.2.2.1, 120, .inl (u_3 0))), ((t 2), .inl (E.2.2.1, 60, .inl (u_3 1))), ((t 3), .inl (E.2.1, 180, .inl (u_3 2)))]) rfl (fun _ => rfl) rfl (Nat.le_of_ble_eq_true rfl) ⟨Nat.le_of_ble_eq_true rfl, Nat.le_of_ble_eq_true rfl⟩ rfl dX1_parse_23 (fun r_4 u_3 e_5 => ?_)
    unfold rcQ at e_5
    rw [hx0] at e_5
    obtain ⟨hrr, hq0, hq1, hq2, hq3, hq4, hq5⟩ := e_5
    subst hrr
    refine x_ifB_eq (tgt := 52) C dX1_parse_26 (by decide) (fun c_26 => ?_) (fun c_26 => ?_)
    · refine x_aload_n C dX1_parse_52 0 rfl ?_
      refine x_get (ref := "RomSearchBus$CommandText") (v := .int (u_3 3 2)) C inX1 0 5 rfl rfl (by decide) kw_fl_X1_29 rfl rfl dX1_parse_53 ?_
      have hT : prT (x 0) L = (false, (rcT (x 0) L (cpP (x 0) L nc)).2, nc) := by rw [← hpr, show 60 - nc = (59 - nc) + 1 by omega, prG_s, if_neg c_26]
      have hu : prQ x u_3 L := ⟨hq0, hq1.trans hx3, fun z => absurd z (by rw [hT]; exact Bool.false_ne_true)⟩
      exact x_iret C hr hlocks rfl u_3 ⟨by rw [hT]; exact hq2, hu⟩ (gEq.rf _) dX1_parse_56
    · refine x_aload_n C dX1_parse_29 0 rfl ?_
      refine x_callVV (wc := [((t 0), .inr (1, [.ref (t 1), .ref (t 2), .ref (t 3), .int (u_3 3 0), .int (u_3 3 1), .int (u_3 3 2)])), ((t 1), .inl (E.2.2.1, 120, .inl (u_3 0))), ((t 2), .inl (E.2.2.1, 60, .inl (u_3 1))), ((t 3), .inl (E.2.1, 180, .inl (u_3 2)))]) (wr := []) (As := []) (rest := []) (ci := 1) (q0 := 0) C (c_X1_skipSpaces l E t u_3 L ((rcT (x 0) L (cpP (x 0) L nc)).2) (by rw [hq1, hx3]; exact hL) hL2 hq2 (by have z := (rcT_ok (f := x 0) (L := L) c_26).1; omega)) (gWV C kw_ml_X1_40 kw_im_X1_skipSpaces kw_sel_X1_skipSpaces kw_ini_X1 kw_code_X1_skipSpaces ga_X1_skipSpaces ⟨Nat.le_of_ble_eq_true rfl, Nat.le_of_ble_eq_true rfl⟩) rfl rfl [0, 1, 2, 3] [] [0, 1, 2, 3] rfl rfl rfl rfl (by decide) (fun _ => [((t 0), .inr (1, [.ref (t 1), .ref (t 2), .ref (t 3), .int (u_3 3 0), .int (u_3 3 1), .int (nI (skip (u_3 0) L ((rcT (x 0) L (cpP (x 0) L nc)).2)))])), ((t 1), .inl (E.2.2.1, 120, .inl (u_3 0))), ((t 2), .inl (E.2.2.1, 60, .inl (u_3 1))), ((t 3), .inl (E.2.1, 180, .inl (u_3 2)))]) rfl (fun _ => rfl) rfl (Nat.le_of_ble_eq_true rfl) ⟨Nat.le_of_ble_eq_true rfl, Nat.le_of_ble_eq_true rfl⟩ rfl dX1_parse_30 (fun _ e_7 => ?_)
      refine Wd.cast (w1 := [((t 0), .inr (1, [.ref (t 1), .ref (t 2), .ref (t 3), .int (u_3 3 0), .int (u_3 3 1), .int (nI (cpP (x 0) L (nc + 1)))])), ((t 1), .inl (E.2.2.1, 120, .inl (u_3 0))), ((t 2), .inl (E.2.2.1, 60, .inl (u_3 1))), ((t 3), .inl (E.2.1, 180, .inl (u_3 2)))]) (lv1 := [(0, .ref (t 0)), (1, .int (nI nc))]) (st1 := []) (by rw [hq0]; rfl) rfl rfl ?_
      refine x_aload_n C dX1_parse_33 0 rfl ?_
      refine x_get (ref := "RomSearchBus$CommandText") (v := .int (nI (cpP (x 0) L (nc + 1)))) C inX1 0 5 rfl rfl (by decide) kw_fl_X1_29 rfl rfl dX1_parse_34 ?_
      refine x_aload_n C dX1_parse_37 0 rfl ?_
      refine x_get (ref := "RomSearchBus$CommandText") (v := .int (u_3 3 0)) C inX1 0 3 rfl rfl (by decide) kw_fl_X1_22 rfl rfl dX1_parse_38 ?_
      refine x_icmp_ne (tgt := 46) C dX1_parse_41 (by decide) (fun c_41 => ?_) (fun c_41 => ?_)
      · have hne : ¬ cpP (x 0) L (nc + 1) = L := fun z => c_41 (by rw [z, hq1, hx3, hL])
        refine x_iinc (j := 1) (v := (nI (nc + 1))) (lv1 := [(1, .int (nI (nc + 1))), (0, .ref (t 0))]) C dX1_parse_46 rfl (nI_1 _) (by decide) rfl ?_
        refine x_goto (tgt := 16) C dX1_parse_49 (by decide) ?_
        refine Wd.locs (lv1 := [(0, .ref (t 0)), (1, .int (nI (nc + 1)))]) [1, 0] rfl ?_
        exact Wd.cast (w1 := [((t 0), .inr (1, [.ref (t 1), .ref (t 2), .ref (t 3), .int ((rs u_3 3 2 (nI (cpP (x 0) L (nc + 1)))) 3 0), .int ((rs u_3 3 2 (nI (cpP (x 0) L (nc + 1)))) 3 1), .int ((rs u_3 3 2 (nI (cpP (x 0) L (nc + 1)))) 3 2)])), ((t 1), .inl (E.2.2.1, 120, .inl ((rs u_3 3 2 (nI (cpP (x 0) L (nc + 1)))) 0))), ((t 2), .inl (E.2.2.1, 60, .inl ((rs u_3 3 2 (nI (cpP (x 0) L (nc + 1)))) 1))), ((t 3), .inl (E.2.1, 180, .inl ((rs u_3 3 2 (nI (cpP (x 0) L (nc + 1)))) 2)))]) (lv1 := [(0, .ref (t 0)), (1, .int (nI (nc + 1)))]) rfl rfl rfl (ih (nc + 1) (rs u_3 3 2 (nI (cpP (x 0) L (nc + 1)))) (⟨by omega, hq0, hq1.trans hx3, (hq3 c_26).1, rfl, skip_b (rcT_ok c_26).1 (Nat.le_refl _), by rw [← hpr, show 60 - nc = (60 - (nc + 1)) + 1 by omega, prG_s, if_pos c_26, if_neg hne], prI_next hall (hq3 c_26).2.1 (hq3 c_26).2.2 hq4 hq5⟩) (by omega))
      · have hend : cpP (x 0) L (nc + 1) = L := (nI_eq (by have z := skip_b (f := x 0) (rcT_ok (f := x 0) (L := L) c_26).1 (Nat.le_refl L); show cpP (x 0) L (nc + 1) < _; exact Nat.lt_of_le_of_lt z (by omega)) (by omega)).mp (c_41.trans (by rw [hq1, hx3, hL]))
        refine x_iconst (v := (-1)) C dX1_parse_44 (by decide) ?_
        have hT : prT (x 0) L = (true, 0, nc + 1) := by rw [← hpr, show 60 - nc = (59 - nc) + 1 by omega, prG_s, if_pos c_26, if_pos hend]
        have hu : prQ x (rs u_3 3 2 (nI (cpP (x 0) L (nc + 1)))) L := by
          refine ⟨hq0, hq1.trans hx3, fun _ => ?_⟩
          rw [hT]
          exact ⟨(hq3 c_26).1, by show nc + 1 ≤ 60; omega, prI_next hall (hq3 c_26).2.1 (hq3 c_26).2.2 hq4 hq5⟩
        exact x_iret C hr hlocks rfl (rs u_3 3 2 (nI (cpP (x 0) L (nc + 1)))) ⟨by rw [hT]; rfl, hu⟩ (gEq.rf _) dX1_parse_45
