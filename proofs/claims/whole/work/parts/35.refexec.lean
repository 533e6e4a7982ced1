theorem gW.up {g : Nat → Int32} (w : gW g) {k : Nat} (v : Int32) (h0 : k ≠ 0) (h4 : k ≠ 40) : gW (upd g k v) :=
  ⟨⟨gN g, (if_neg (Ne.symm h0)).trans w.n.1, w.n.2⟩, ⟨gH g, (if_neg (Ne.symm h4)).trans w.m.1, w.m.2⟩⟩
theorem gW.reset {g : Nat → Int32} (w : gW g) : gW (resetG g) := (((w.up _ (by decide) (by decide)).up _ (by decide) (by decide)).up _ (by decide) (by decide)).up _ (by decide) (by decide)
theorem gW.cmd {g : Nat → Int32} (w : gW g) (lt a b e : Int32) : gW (mdG g (gN g) (gH g) lt a b e) := by
  have h8 := w.n.2
  unfold mdG
  split
  · unfold mAddG
    split
    · split
      · split
        · exact w
        · split
          · exact w
          · rename_i z1
            have z0 : ¬ gN g = 8 := fun z2 => z1 (by rw [w.n.1, z2]; rfl)
            refine ⟨⟨gN g + 1, ?_, by omega⟩, ⟨gH g, ?_, w.m.2⟩⟩
            · show (g 0) + 1 = _; rw [w.n.1]; exact nI_1 _
            · refine Eq.trans ?_ w.m.1
              simp only [upd]
              rw [if_neg (by decide), if_neg (by omega), if_neg (by omega), if_neg (by omega), if_neg (by omega)]
      · exact w
    · exact w
  · split
    · exact ((w.up _ (by decide) (by decide)).up _ (by decide) (by decide)).up _ (by decide) (by decide)
    · split
      · unfold mAlG f_X6_doAlarm_y0
        split
        · rename_i z1
          have z0 := (i32_in2 z1 w.n.1 w.n.2).1
          split
          · split
            · exact (w.up _ (by omega) (by omega)).up _ (by omega) (by omega)
            · exact w
          · exact w
        · exact w
      · split
        · unfold dmG
          split
          · exact w.reset.up _ (by decide) (by decide)
          · exact w
        · split
          · exact w.reset
          · split
            · unfold mRdG f_X6_doReading_y0
              split
              · rename_i z1
                have z0 := (i32_in2 z1 w.n.1 w.n.2).1
                split
                · exact w.up _ (by omega) (by omega)
                · exact w
              · exact w
            · split
              · unfold mRemG
                split
                · rename_i z1
                  have z0 := (i32_in2 z1 w.n.1 w.n.2).1
                  refine ⟨⟨gN g - 1, ?_, by omega⟩, ⟨gH g, ?_, w.m.2⟩⟩
                  · unfold shF; rw [if_neg (by omega)]; show (g 0) - 1 = _; rw [w.n.1]; exact nI_m1 (by omega)
                  · unfold shF; rw [if_neg (by omega)]; exact w.m.1
                · exact w
              · exact w.pass
/-- the reference's commands from number i on (j of them) -/
def mxG (l6 n6 : Nat → Int32) : Nat → Nat → (Nat → Int32) → Bool × Nat × Int32 × (Nat → Int32)
  | 0, i, g => (true, i, 0, g)
  | j + 1, i, g => if eP (mdR g (gN g) (l6 i) (n6 (3 * i)) (n6 (3 * i + 1)) (n6 (3 * i + 2))) then (false, i, mdR g (gN g) (l6 i) (n6 (3 * i)) (n6 (3 * i + 1)) (n6 (3 * i + 2)), g) else mxG l6 n6 j (i + 1) (mdG g (gN g) (gH g) (l6 i) (n6 (3 * i)) (n6 (3 * i + 1)) (n6 (3 * i + 2)))
theorem mxG_0 (l6 n6 : Nat → Int32) (i : Nat) (g : Nat → Int32) : mxG l6 n6 0 i g = (true, i, 0, g) := rfl
theorem mxG_s (l6 n6 : Nat → Int32) (j i : Nat) (g : Nat → Int32) : mxG l6 n6 (j + 1) i g = if eP (mdR g (gN g) (l6 i) (n6 (3 * i)) (n6 (3 * i + 1)) (n6 (3 * i + 2))) then (false, i, mdR g (gN g) (l6 i) (n6 (3 * i)) (n6 (3 * i + 1)) (n6 (3 * i + 2)), g) else mxG l6 n6 j (i + 1) (mdG g (gN g) (gH g) (l6 i) (n6 (3 * i)) (n6 (3 * i + 1)) (n6 (3 * i + 2))) := rfl
def mxT (y u : Nat → Nat → Int32) (L : Nat) : Bool × Nat × Int32 × (Nat → Int32) := mxG (u 5) (u 6) (prT (y 4) L).2.2 0 (y 0)
def mxOk (y u : Nat → Nat → Int32) (L : Nat) : Bool := (prT (y 4) L).1 && (mxT y u L).1
def mxSt (y u : Nat → Nat → Int32) (L : Nat) : Bool := (prT (y 4) L).1 && !(mxT y u L).1
def mxR (y u : Nat → Nat → Int32) (L : Nat) : Int32 := if (prT (y 4) L).1 = true then (if (mxT y u L).1 = true then nI (prT (y 4) L).2.2 else (-1000) - nI (mxT y u L).2.1) else (-10) - nI (prT (y 4) L).2.1
/-- command i as it stands in the reference's rows -/
def prM (f : Nat → Int32) (L : Nat) (u : Nat → Nat → Int32) (i : Nat) : Prop := u 5 i = atP f L (cpP f L i) ∧ ∀ k, k < ndN (atP f L (cpP f L i)) → u 6 (3 * i + k) = nvP f L (atP f L (cpP f L i)) (cpP f L i + 1) k
theorem cpP_sk (f : Nat → Int32) (L : Nat) : ∀ nc, skip f L (cpP f L nc) = cpP f L nc
  | 0 => skip_idem _ _ _
  | _ + 1 => skip_idem _ _ _
/-- the loop over the text: nc commands stand in v, or an error is found -/
def exI (f : Nat → Int32) (L nc : Nat) (v : Nat → Nat → Int32) : Prop := nc ≤ 60 ∧ ((v 7 4 = -1 ∧ (∃ p, v 7 3 = nI p ∧ p ≤ 200 ∧ skip f L p = cpP f L nc) ∧ v 7 5 = nI nc ∧ 2 * nc ≤ cpP f L nc ∧ cpP f L nc ≤ L ∧ (if cpP f L nc = L then (true, 0, nc) else prG f L (60 - nc) nc) = prT f L ∧ ∀ i, i < nc → prM f L v i) ∨ (∃ e k, v 7 4 = nI e ∧ e < 2 ^ 31 ∧ prT f L = (false, e, k)))
def exM (nc : Nat) (v : Nat → Nat → Int32) : Nat := 2 * (61 - nc) + (if v 7 4 = -1 then 1 else 0)
theorem exI_0 {f : Nat → Int32} {L : Nat} {v : Nat → Nat → Int32} (h4 : v 7 4 = -1) (h3 : v 7 3 = nI (skip f L 0)) (h5 : v 7 5 = nI 0) (hL : L ≤ 120) (hne : ¬ skip f L 0 = L) : exI f L 0 v :=
  ⟨by decide, Or.inl ⟨h4, ⟨skip f L 0, h3, skip_b (by decide) (by omega), skip_idem _ _ _⟩, h5, Nat.zero_le _, skip_b (Nat.zero_le _) (Nat.le_refl _), (if_neg hne : (if cpP f L 0 = L then ((true, 0, 0) : Bool × Nat × Nat) else prG f L (60 - 0) 0) = prG f L (60 - 0) 0), fun i hi => absurd hi (Nat.not_lt_zero _)⟩⟩
theorem exI_A {f : Nat → Int32} {L nc : Nat} {v : Nat → Nat → Int32} (h : exI f L nc v) (h4 : ¬ 0 ≤ v 7 4) : v 7 4 = -1 ∧ (∃ p, v 7 3 = nI p ∧ p ≤ 200 ∧ skip f L p = cpP f L nc) ∧ v 7 5 = nI nc ∧ 2 * nc ≤ cpP f L nc ∧ cpP f L nc ≤ L ∧ (if cpP f L nc = L then (true, 0, nc) else prG f L (60 - nc) nc) = prT f L ∧ ∀ i, i < nc → prM f L v i := by
  rcases h.2 with z | ⟨e, k, z1, z2, _⟩
  · exact z
  · exact absurd (by rw [z1]; exact nI_pos' z2) h4
theorem exI_B {f : Nat → Int32} {L nc : Nat} {v : Nat → Nat → Int32} (h : exI f L nc v) (h4 : 0 ≤ v 7 4) : ∃ e k, v 7 4 = nI e ∧ e < 2 ^ 31 ∧ prT f L = (false, e, k) := by
  rcases h.2 with z | z
  · exact absurd h4 (by rw [z.1]; decide)
  · exact z
theorem exI_s {f : Nat → Int32} {L nc : Nat} {v w : Nat → Nat → Int32} (hL : L ≤ 120) (h4 : v 7 4 = -1) (h2 : 2 * nc ≤ cpP f L nc) (hlt : cpP f L nc < L) (hpr : (if cpP f L nc = L then (true, 0, nc) else prG f L (60 - nc) nc) = prT f L) (hall : ∀ i, i < nc → prM f L v i)
    (q1 : ∀ i, i < nc → w 5 i = v 5 i) (q2 : ∀ j, j < 3 * nc → w 6 j = v 6 j) (q3 : (rcT f L (cpP f L nc)).1 = true → w 7 4 = -1 ∧ w 7 3 = nI (rcT f L (cpP f L nc)).2 ∧ w 7 5 = nI (nc + 1) ∧ w 5 nc = atP f L (cpP f L nc) ∧ ∀ k, k < ndN (atP f L (cpP f L nc)) → w 6 (3 * nc + k) = nvP f L (atP f L (cpP f L nc)) (cpP f L nc + 1) k) (q4 : ¬ (rcT f L (cpP f L nc)).1 = true → w 7 4 = nI (rcT f L (cpP f L nc)).2) :
    exI f L (ySel (rcT f L (cpP f L nc)).1 (nc + 1) nc) w ∧ exM (ySel (rcT f L (cpP f L nc)).1 (nc + 1) nc) w < exM nc v := by
  rw [if_neg (by omega), show 60 - nc = (59 - nc) + 1 by omega, prG_s] at hpr
  have hb := rcT_b (f := f) (L := L) (cu := cpP f L nc) (B := 200) (by omega) (by omega)
  by_cases e : (rcT f L (cpP f L nc)).1 = true
  · obtain ⟨a1, a2, a3, a4, a5⟩ := q3 e
    have ok := rcT_ok e
    rw [if_pos e] at hpr
    rw [ySel_t e]
    refine ⟨⟨by omega, Or.inl ⟨a1, ⟨_, a2, by omega, rfl⟩, a3, ?_, skip_b ok.1 (Nat.le_refl _), ?_, ?_⟩⟩, ?_⟩
    · have z := skip_ge f L (rcT f L (cpP f L nc)).2
      show 2 * (nc + 1) ≤ skip f L (rcT f L (cpP f L nc)).2
      omega
    · rw [← hpr, show 60 - (nc + 1) = 59 - nc by omega]
    · intro i hi
      rcases Nat.lt_succ_iff_lt_or_eq.mp hi with z | z
      · obtain ⟨b1, b2⟩ := hall i z
        exact ⟨by rw [q1 i z]; exact b1, fun k hk => by have := ndN_lt3 hk; rw [q2 _ (by omega)]; exact b2 k hk⟩
      · subst z; exact ⟨a4, a5⟩
    · unfold exM; rw [if_pos h4, if_pos a1]; omega
  · have a1 := q4 e
    rw [if_neg e] at hpr
    have e' : (rcT f L (cpP f L nc)).1 = false := by
      cases z : (rcT f L (cpP f L nc)).1 with
      | false => rfl
      | true => exact absurd z e
    rw [ySel_f e']
    refine ⟨⟨by omega, Or.inr ⟨_, _, a1, by omega, hpr.symm⟩⟩, ?_⟩
    unfold exM; rw [if_pos h4, if_neg (by rw [a1]; exact nI_nm1 (by omega))]; omega
theorem prT_empty {f : Nat → Int32} {L : Nat} (h : ¬ skip f L 0 < L) : prT f L = (false, L, 0) := by
  have h1 : skip f L 0 ≤ L := skip_b (Nat.zero_le _) (Nat.le_refl _)
  have h2 : cpP f L 0 = L := by show skip f L 0 = L; omega
  have h3 : rcT f L L = (false, L) := by
    unfold rcT
    rw [if_pos (by unfold atP; rw [if_neg (by omega)]; rfl)]
  unfold prT
  rw [prG_s, h2, h3, if_neg Bool.false_ne_true]
theorem atP_nn {f : Nat → Int32} {L p : Nat} (hb : ∀ j, j < L → 0 ≤ f j) : (0 ≤ atP f L p → p < L) ∧ (p < L → 0 ≤ atP f L p) := by
  unfold atP
  constructor
  · intro h
    rcases Nat.lt_or_ge p L with z | z
    · exact z
    · rw [if_neg (by omega)] at h; exact absurd h (by decide)
  · intro h; rw [if_pos h]; exact hb p h
set_option maxHeartbeats 4000000 in
set_option maxRecDepth 100000 in
theorem c_X6_execute (l : Launch) (E : gE) (g : Nat → Nat) (y : Nat → Nat → Int32) (z : Int64) (L : Nat) (c : Nat) (ht : y 7 2 = nI L) (hL2 : L ≤ 120) (hb : ∀ j, j < L → 0 ≤ y 4 j) (w0 : gW (y 0)) (hc : y 7 0 = nI c) (h5c : c ≤ 5) : CtI l E yX6_execute prog_8_method_62_code 3 (some .int) 5 117 0 0 [.ref (g 0)] [((g 0), .inr (6, [.ref (g 1), .ref (g 2), .ref (g 3), .int (y 7 0), .ref (g 4), .int (y 7 1), .ref (g 5), .int (y 7 2), .int (y 7 3), .int (y 7 4), .int (y 7 5), .ref (g 6), .ref (g 7), .long z])), ((g 1), .inl (E.2.1, 47, .inl (y 0))), ((g 2), .inl (E.2.1, 47, .inl (y 1))), ((g 3), .inl (E.2.1, 235, .inl (y 2))), ((g 4), .inl (E.2.1, 8, .inl (y 3))), ((g 5), .inl (E.2.1, 120, .inl (y 4))), ((g 6), .inl (E.2.1, 60, .inl (y 5))), ((g 7), .inl (E.2.1, 180, .inl (y 6)))] (fun r (u : Nat → Nat → Int32) => r = mxR y u L ∧ ((prT (y 4) L).1 = true → ∀ i, i < (prT (y 4) L).2.2 → prM (y 4) L u i)) (fun u => [((g 0), .inr (6, [.ref (g 1), .ref (g 2), .ref (g 3), .int (nI (ySel (mxOk y u L) (pN c) c)), .ref (g 4), .int (ySel (mxSt y u L) (mxT y u L).2.2.1 (y 7 1)), .ref (g 5), .int (y 7 2), .int (u 7 3), .int (u 7 4), .int (u 7 5), .ref (g 6), .ref (g 7), .long z])), ((g 1), .inl (E.2.1, 47, .inl (ySel (mxOk y u L) (mxT y u L).2.2.2 (y 0)))), ((g 2), .inl (E.2.1, 47, .inl (u 1))), ((g 3), .inl (E.2.1, 235, .inl (ySel (mxOk y u L) (svR (y 2) c (y 0)) (y 2)))), ((g 4), .inl (E.2.1, 8, .inl (y 3))), ((g 5), .inl (E.2.1, 120, .inl (y 4))), ((g 6), .inl (E.2.1, 60, .inl (u 5))), ((g 7), .inl (E.2.1, 180, .inl (u 6)))]) := by
  refine CtI.start (by decide) (Nat.le_of_ble_eq_true rfl) ?_
  intro p_ e_ s_ m_ below_ meth_ c_ A_ C hr hlocks hnm
  refine Wd.cast (lv1 := [(0, .ref (g 0))]) rfl rfl rfl ?_
  refine x_aload_n C dX6_execute_0 0 rfl ?_
  refine x_iconst (v := 0) C dX6_execute_1 (by decide) ?_
  refine x_put (ref := "RomSearchBusModel") C inX6 tyX6 tyX6_ok nmX6 0 8 rfl rfl (by decide) kw_fl_X6_138 rfl rfl rfl rfl (Nat.le_of_ble_eq_true rfl) [((g 0), .inr (6, [.ref (g 1), .ref (g 2), .ref (g 3), .int (y 7 0), .ref (g 4), .int (y 7 1), .ref (g 5), .int (y 7 2), .int 0, .int (y 7 4), .int (y 7 5), .ref (g 6), .ref (g 7), .long z])), ((g 1), .inl (E.2.1, 47, .inl (y 0))), ((g 2), .inl (E.2.1, 47, .inl (y 1))), ((g 3), .inl (E.2.1, 235, .inl (y 2))), ((g 4), .inl (E.2.1, 8, .inl (y 3))), ((g 5), .inl (E.2.1, 120, .inl (y 4))), ((g 6), .inl (E.2.1, 60, .inl (y 5))), ((g 7), .inl (E.2.1, 180, .inl (y 6)))] rfl dX6_execute_2 ?_
  refine x_aload_n C dX6_execute_5 0 rfl ?_
  refine x_iconst (v := (-1)) C dX6_execute_6 (by decide) ?_
  refine x_put (ref := "RomSearchBusModel") C inX6 tyX6 tyX6_ok nmX6 0 9 rfl rfl (by decide) kw_fl_X6_141 rfl rfl rfl rfl (Nat.le_of_ble_eq_true rfl) [((g 0), .inr (6, [.ref (g 1), .ref (g 2), .ref (g 3), .int (y 7 0), .ref (g 4), .int (y 7 1), .ref (g 5), .int (y 7 2), .int 0, .int (-1), .int (y 7 5), .ref (g 6), .ref (g 7), .long z])), ((g 1), .inl (E.2.1, 47, .inl (y 0))), ((g 2), .inl (E.2.1, 47, .inl (y 1))), ((g 3), .inl (E.2.1, 235, .inl (y 2))), ((g 4), .inl (E.2.1, 8, .inl (y 3))), ((g 5), .inl (E.2.1, 120, .inl (y 4))), ((g 6), .inl (E.2.1, 60, .inl (y 5))), ((g 7), .inl (E.2.1, 180, .inl (y 6)))] rfl dX6_execute_7 ?_
  refine x_aload_n C dX6_execute_10 0 rfl ?_
  refine x_iconst (v := 0) C dX6_execute_11 (by decide) ?_
  refine x_put (ref := "RomSearchBusModel") C inX6 tyX6 tyX6_ok nmX6 0 10 rfl rfl (by decide) kw_fl_X6_158 rfl rfl rfl rfl (Nat.le_of_ble_eq_true rfl) [((g 0), .inr (6, [.ref (g 1), .ref (g 2), .ref (g 3), .int (y 7 0), .ref (g 4), .int (y 7 1), .ref (g 5), .int (y 7 2), .int 0, .int (-1), .int 0, .ref (g 6), .ref (g 7), .long z])), ((g 1), .inl (E.2.1, 47, .inl (y 0))), ((g 2), .inl (E.2.1, 47, .inl (y 1))), ((g 3), .inl (E.2.1, 235, .inl (y 2))), ((g 4), .inl (E.2.1, 8, .inl (y 3))), ((g 5), .inl (E.2.1, 120, .inl (y 4))), ((g 6), .inl (E.2.1, 60, .inl (y 5))), ((g 7), .inl (E.2.1, 180, .inl (y 6)))] rfl dX6_execute_12 ?_
  refine x_aload_n C dX6_execute_15 0 rfl ?_
  refine x_callVI (wc := [((g 0), .inr (6, [.ref (g 1), .ref (g 2), .ref (g 3), .int (y 7 0), .ref (g 4), .int (y 7 1), .ref (g 5), .int (y 7 2), .int 0, .int (-1), .int 0, .ref (g 6), .ref (g 7), .long z])), ((g 1), .inl (E.2.1, 47, .inl (y 0))), ((g 2), .inl (E.2.1, 47, .inl (y 1))), ((g 3), .inl (E.2.1, 235, .inl (y 2))), ((g 4), .inl (E.2.1, 8, .inl (y 3))), ((g 5), .inl (E.2.1, 120, .inl (y 4))), ((g 6), .inl (E.2.1, 60, .inl (y 5))), ((g 7), .inl (E.2.1, 180, .inl (y 6)))]) (wr := []) (As := []) (rest := []) (ci := 6) (q0 := 0) C (c_X6_here l E g (rs (rs (rs y 7 3 0) 7 4 (-1)) 7 5 0) z L 0 ht hL2 rfl (by decide)) (gWV C kw_ml_X6_144 kw_im_X6_here kw_sel_X6_here kw_ini_X6 kw_code_X6_here ga_X6_here ⟨Nat.le_of_ble_eq_true rfl, Nat.le_of_ble_eq_true rfl⟩) rfl rfl [0, 1, 2, 3, 4, 5, 6, 7] [] [0, 1, 2, 3, 4, 5, 6, 7] rfl rfl rfl rfl (by decide) (fun _ => [((g 0), .inr (6, [.ref (g 1), .ref (g 2), .ref (g 3), .int (y 7 0), .ref (g 4), .int (y 7 1), .ref (g 5), .int (y 7 2), .int (nI (skip (y 4) L 0)), .int (-1), .int 0, .ref (g 6), .ref (g 7), .long z])), ((g 1), .inl (E.2.1, 47, .inl (y 0))), ((g 2), .inl (E.2.1, 47, .inl (y 1))), ((g 3), .inl (E.2.1, 235, .inl (y 2))), ((g 4), .inl (E.2.1, 8, .inl (y 3))), ((g 5), .inl (E.2.1, 120, .inl (y 4))), ((g 6), .inl (E.2.1, 60, .inl (y 5))), ((g 7), .inl (E.2.1, 180, .inl (y 6)))]) rfl (fun _ => rfl) rfl (Nat.le_of_ble_eq_true rfl) ⟨Nat.le_of_ble_eq_true rfl, Nat.le_of_ble_eq_true rfl⟩ rfl dX6_execute_16 (fun r_1 _ e_2 => ?_)
  subst e_2
  refine Wd.cast (w1 := [((g 0), .inr (6, [.ref (g 1), .ref (g 2), .ref (g 3), .int (y 7 0), .ref (g 4), .int (y 7 1), .ref (g 5), .int (y 7 2), .int (nI (skip (y 4) L 0)), .int (-1), .int 0, .ref (g 6), .ref (g 7), .long z])), ((g 1), .inl (E.2.1, 47, .inl (y 0))), ((g 2), .inl (E.2.1, 47, .inl (y 1))), ((g 3), .inl (E.2.1, 235, .inl (y 2))), ((g 4), .inl (E.2.1, 8, .inl (y 3))), ((g 5), .inl (E.2.1, 120, .inl (y 4))), ((g 6), .inl (E.2.1, 60, .inl (y 5))), ((g 7), .inl (E.2.1, 180, .inl (y 6)))]) (lv1 := [(0, .ref (g 0))]) (st1 := [.int (atP (y 4) L (skip (y 4) L 0))]) rfl rfl rfl ?_
  refine x_if_ge (tgt := 30) C dX6_execute_19 (by decide) (fun c_19 => ?_) (fun c_19 => ?_)
  · have hsl : skip (y 4) L 0 < L := (atP_nn hb).1 c_19
    refine Wd.cast (w1 := [((g 0), .inr (6, [.ref (g 1), .ref (g 2), .ref (g 3), .int (y 7 0), .ref (g 4), .int (y 7 1), .ref (g 5), .int (y 7 2), .int ((rs (rs (rs y 7 4 (-1)) 7 5 0) 7 3 (nI (skip (y 4) L 0))) 7 3), .int ((rs (rs (rs y 7 4 (-1)) 7 5 0) 7 3 (nI (skip (y 4) L 0))) 7 4), .int ((rs (rs (rs y 7 4 (-1)) 7 5 0) 7 3 (nI (skip (y 4) L 0))) 7 5), .ref (g 6), .ref (g 7), .long z])), ((g 1), .inl (E.2.1, 47, .inl (y 0))), ((g 2), .inl (E.2.1, 47, .inl (y 1))), ((g 3), .inl (E.2.1, 235, .inl (y 2))), ((g 4), .inl (E.2.1, 8, .inl (y 3))), ((g 5), .inl (E.2.1, 120, .inl (y 4))), ((g 6), .inl (E.2.1, 60, .inl ((rs (rs (rs y 7 4 (-1)) 7 5 0) 7 3 (nI (skip (y 4) L 0))) 5))), ((g 7), .inl (E.2.1, 180, .inl ((rs (rs (rs y 7 4 (-1)) 7 5 0) 7 3 (nI (skip (y 4) L 0))) 6)))]) (lv1 := [(0, .ref (g 0))]) rfl rfl rfl ?_
    refine Wd.wh2 (W1 := fun (nc : Nat) (v : Nat → Nat → Int32) => [((g 0), .inr (6, [.ref (g 1), .ref (g 2), .ref (g 3), .int (y 7 0), .ref (g 4), .int (y 7 1), .ref (g 5), .int (y 7 2), .int (v 7 3), .int (v 7 4), .int (v 7 5), .ref (g 6), .ref (g 7), .long z])), ((g 1), .inl (E.2.1, 47, .inl (y 0))), ((g 2), .inl (E.2.1, 47, .inl (y 1))), ((g 3), .inl (E.2.1, 235, .inl (y 2))), ((g 4), .inl (E.2.1, 8, .inl (y 3))), ((g 5), .inl (E.2.1, 120, .inl (y 4))), ((g 6), .inl (E.2.1, 60, .inl (v 5))), ((g 7), .inl (E.2.1, 180, .inl (v 6)))]) (LV := fun (nc : Nat) (v : Nat → Nat → Int32) => [(0, .ref (g 0))]) (fun (nc : Nat) (v : Nat → Nat → Int32) => exI (y 4) L nc v) (fun (nc : Nat) (v : Nat → Nat → Int32) => exM nc v) 0 (rs (rs (rs y 7 4 (-1)) 7 5 0) 7 3 (nI (skip (y 4) L 0))) (exI_0 rfl rfl rfl hL2 (by omega)) (fun nc v hI ih => ?_)
    refine Wd.cast (w1 := [((g 0), .inr (6, [.ref (g 1), .ref (g 2), .ref (g 3), .int (y 7 0), .ref (g 4), .int (y 7 1), .ref (g 5), .int (y 7 2), .int (v 7 3), .int (v 7 4), .int (v 7 5), .ref (g 6), .ref (g 7), .long z])), ((g 1), .inl (E.2.1, 47, .inl (y 0))), ((g 2), .inl (E.2.1, 47, .inl (y 1))), ((g 3), .inl (E.2.1, 235, .inl (y 2))), ((g 4), .inl (E.2.1, 8, .inl (y 3))), ((g 5), .inl (E.2.1, 120, .inl (y 4))), ((g 6), .inl (E.2.1, 60, .inl (v 5))), ((g 7), .inl (E.2.1, 180, .inl (v 6)))]) (lv1 := [(0, .ref (g 0))]) rfl rfl rfl ?_
    refine x_aload_n C dX6_execute_30 0 rfl ?_
    refine x_get (ref := "RomSearchBusModel") (v := .int (v 7 4)) C inX6 0 9 rfl rfl (by decide) kw_fl_X6_141 rfl rfl dX6_execute_31 ?_
    refine x_if_ge (tgt := 51) C dX6_execute_34 (by decide) (fun c_34 => ?_) (fun c_34 => ?_)
    · refine x_aload_n C dX6_execute_51 0 rfl ?_
      refine x_get (ref := "RomSearchBusModel") (v := .int (v 7 4)) C inX6 0 9 rfl rfl (by decide) kw_fl_X6_141 rfl rfl dX6_execute_52 ?_
      refine x_if_lt (tgt := 66) C dX6_execute_55 (by decide) (fun c_55 => absurd c_34 (Int32.not_le.mpr c_55)) (fun c_55 => ?_)
      refine x_bipush (v := (-10)) C dX6_execute_58 (by decide) ?_
      refine x_aload_n C dX6_execute_60 0 rfl ?_
      refine x_get (ref := "RomSearchBusModel") (v := .int (v 7 4)) C inX6 0 9 rfl rfl (by decide) kw_fl_X6_141 rfl rfl dX6_execute_61 ?_
      refine x_isub C dX6_execute_64 ?_
      obtain ⟨e, k, he1, he2, hP⟩ := exI_B hI c_34
      have k0 : (prT (y 4) L).1 = false := by rw [hP]
      have k1 : mxOk y (rs (rs (rs (va_up (va_up y 5 (v 5)) 6 (v 6)) 7 3 (v 7 3)) 7 4 (v 7 4)) 7 5 (v 7 5)) L = false := by unfold mxOk; rw [k0]; rfl
      have k2 : mxSt y (rs (rs (rs (va_up (va_up y 5 (v 5)) 6 (v 6)) 7 3 (v 7 3)) 7 4 (v 7 4)) 7 5 (v 7 5)) L = false := by unfold mxSt; rw [k0]; rfl
      have k3 : mxR y (rs (rs (rs (va_up (va_up y 5 (v 5)) 6 (v 6)) 7 3 (v 7 3)) 7 4 (v 7 4)) 7 5 (v 7 5)) L = ((-10) - (v 7 4)) := by unfold mxR; rw [if_neg (by rw [k0]; exact Bool.false_ne_true), hP, he1]
      have k4 : (prT (y 4) L).1 = true → ∀ i, i < (prT (y 4) L).2.2 → prM (y 4) L (rs (rs (rs (va_up (va_up y 5 (v 5)) 6 (v 6)) 7 3 (v 7 3)) 7 4 (v 7 4)) 7 5 (v 7 5)) i := fun z0 => absurd z0 (by rw [k0]; exact Bool.false_ne_true)
      exact x_iret C hr hlocks rfl (rs (rs (rs (va_up (va_up y 5 (v 5)) 6 (v 6)) 7 3 (v 7 3)) 7 4 (v 7 4)) 7 5 (v 7 5)) ⟨k3.symm, k4⟩ (by simp only [ySel_f k1, ySel_f k2]; rw [← hc]; exact gEq.rf _) dX6_execute_65
    · obtain ⟨hs, ⟨p, hp, hpb, hsk⟩, h5, h2, hcl, hpr, hall⟩ := exI_A hI c_34
      refine x_aload_n C dX6_execute_37 0 rfl ?_
      refine x_callVI (wc := [((g 0), .inr (6, [.ref (g 1), .ref (g 2), .ref (g 3), .int (y 7 0), .ref (g 4), .int (y 7 1), .ref (g 5), .int (y 7 2), .int (v 7 3), .int (v 7 4), .int (v 7 5), .ref (g 6), .ref (g 7), .long z])), ((g 1), .inl (E.2.1, 47, .inl (y 0))), ((g 2), .inl (E.2.1, 47, .inl (y 1))), ((g 3), .inl (E.2.1, 235, .inl (y 2))), ((g 4), .inl (E.2.1, 8, .inl (y 3))), ((g 5), .inl (E.2.1, 120, .inl (y 4))), ((g 6), .inl (E.2.1, 60, .inl (v 5))), ((g 7), .inl (E.2.1, 180, .inl (v 6)))]) (wr := []) (As := []) (rest := []) (ci := 6) (q0 := 0) C (c_X6_here l E g (rs (rs (rs (va_up (va_up y 5 (v 5)) 6 (v 6)) 7 3 (v 7 3)) 7 4 (v 7 4)) 7 5 (v 7 5)) z L p ht hL2 hp (by omega)) (gWV C kw_ml_X6_144 kw_im_X6_here kw_sel_X6_here kw_ini_X6 kw_code_X6_here ga_X6_here ⟨Nat.le_of_ble_eq_true rfl, Nat.le_of_ble_eq_true rfl⟩) rfl rfl [0, 1, 2, 3, 4, 5, 6, 7] [] [0, 1, 2, 3, 4, 5, 6, 7] rfl rfl rfl rfl (by decide) (fun _ => [((g 0), .inr (6, [.ref (g 1), .ref (g 2), .ref (g 3), .int (y 7 0), .ref (g 4), .int (y 7 1), .ref (g 5), .int (y 7 2), .int (nI (skip (y 4) L p)), .int (v 7 4), .int (v 7 5), .ref (g 6), .ref (g 7), .long z])), ((g 1), .inl (E.2.1, 47, .inl (y 0))), ((g 2), .inl (E.2.1, 47, .inl (y 1))), ((g 3), .inl (E.2.1, 235, .inl (y 2))), ((g 4), .inl (E.2.1, 8, .inl (y 3))), ((g 5), .inl (E.2.1, 120, .inl (y 4))), ((g 6), .inl (E.2.1, 60, .inl (v 5))), ((g 7), .inl (E.2.1, 180, .inl (v 6)))]) rfl (fun _ => rfl) rfl (Nat.le_of_ble_eq_true rfl) ⟨Nat.le_of_ble_eq_true rfl, Nat.le_of_ble_eq_true rfl⟩ rfl dX6_execute_38 (fun r_3 _ e_4 => ?_)
      subst e_4
      refine Wd.cast (w1 := [((g 0), .inr (6, [.ref (g 1), .ref (g 2), .ref (g 3), .int (y 7 0), .ref (g 4), .int (y 7 1), .ref (g 5), .int (y 7 2), .int (nI (skip (y 4) L p)), .int (v 7 4), .int (v 7 5), .ref (g 6), .ref (g 7), .long z])), ((g 1), .inl (E.2.1, 47, .inl (y 0))), ((g 2), .inl (E.2.1, 47, .inl (y 1))), ((g 3), .inl (E.2.1, 235, .inl (y 2))), ((g 4), .inl (E.2.1, 8, .inl (y 3))), ((g 5), .inl (E.2.1, 120, .inl (y 4))), ((g 6), .inl (E.2.1, 60, .inl (v 5))), ((g 7), .inl (E.2.1, 180, .inl (v 6)))]) (lv1 := [(0, .ref (g 0))]) (st1 := [.int (atP (y 4) L (skip (y 4) L p))]) rfl rfl rfl ?_
      refine Wd.cast (w1 := [((g 0), .inr (6, [.ref (g 1), .ref (g 2), .ref (g 3), .int (y 7 0), .ref (g 4), .int (y 7 1), .ref (g 5), .int (y 7 2), .int (nI (cpP (y 4) L nc)), .int (v 7 4), .int (v 7 5), .ref (g 6), .ref (g 7), .long z])), ((g 1), .inl (E.2.1, 47, .inl (y 0))), ((g 2), .inl (E.2.1, 47, .inl (y 1))), ((g 3), .inl (E.2.1, 235, .inl (y 2))), ((g 4), .inl (E.2.1, 8, .inl (y 3))), ((g 5), .inl (E.2.1, 120, .inl (y 4))), ((g 6), .inl (E.2.1, 60, .inl (v 5))), ((g 7), .inl (E.2.1, 180, .inl (v 6)))]) (lv1 := [(0, .ref (g 0))]) (st1 := [.int (atP (y 4) L (cpP (y 4) L nc))]) (by rw [hsk]) rfl (by rw [hsk]) ?_
      refine x_if_lt (tgt := 51) C dX6_execute_41 (by decide) (fun c_41 => ?_) (fun c_41 => ?_)
      · refine x_aload_n C dX6_execute_51 0 rfl ?_
        refine x_get (ref := "RomSearchBusModel") (v := .int (v 7 4)) C inX6 0 9 rfl rfl (by decide) kw_fl_X6_141 rfl rfl dX6_execute_52 ?_
        refine x_if_lt (tgt := 66) C dX6_execute_55 (by decide) (fun c_55 => ?_) (fun c_55 => absurd (by rw [hs]; decide) c_55)
        have hcl2 : (cpP (y 4) L nc) = L := by
          rcases Nat.lt_or_ge (cpP (y 4) L nc) L with z0 | z0
          · exact absurd ((atP_nn hb).2 z0) (Int32.not_le.mpr c_41)
          · omega
        rw [if_pos hcl2] at hpr
        refine x_aload_n C dX6_execute_66 0 rfl ?_
        refine x_callVV (wc := [((g 0), .inr (6, [.ref (g 1), .ref (g 2), .ref (g 3), .int (y 7 0), .ref (g 4), .int (y 7 1), .ref (g 5), .int (y 7 2), .int (nI (cpP (y 4) L nc)), .int (v 7 4), .int (v 7 5), .ref (g 6), .ref (g 7), .long z])), ((g 1), .inl (E.2.1, 47, .inl (y 0))), ((g 2), .inl (E.2.1, 47, .inl (y 1))), ((g 3), .inl (E.2.1, 235, .inl (y 2))), ((g 4), .inl (E.2.1, 8, .inl (y 3))), ((g 5), .inl (E.2.1, 120, .inl (y 4))), ((g 6), .inl (E.2.1, 60, .inl (v 5))), ((g 7), .inl (E.2.1, 180, .inl (v 6)))]) (wr := []) (As := []) (rest := []) (ci := 6) (q0 := 0) C (c_X6_remember l E g (rs (rs (rs (va_up (va_up y 5 (v 5)) 6 (v 6)) 7 4 (v 7 4)) 7 5 (v 7 5)) 7 3 (nI (cpP (y 4) L nc))) z ) (gWV C kw_ml_X6_66 kw_im_X6_remember kw_sel_X6_remember kw_ini_X6 kw_code_X6_remember ga_X6_remember ⟨Nat.le_of_ble_eq_true rfl, Nat.le_of_ble_eq_true rfl⟩) rfl rfl [0, 1, 2, 3, 4, 5, 6, 7] [] [0, 1, 2, 3, 4, 5, 6, 7] rfl rfl rfl rfl (by decide) (fun _ => [((g 0), .inr (6, [.ref (g 1), .ref (g 2), .ref (g 3), .int (y 7 0), .ref (g 4), .int (y 7 1), .ref (g 5), .int (y 7 2), .int (nI (cpP (y 4) L nc)), .int (v 7 4), .int (v 7 5), .ref (g 6), .ref (g 7), .long z])), ((g 1), .inl (E.2.1, 47, .inl (y 0))), ((g 2), .inl (E.2.1, 47, .inl (y 0))), ((g 3), .inl (E.2.1, 235, .inl (y 2))), ((g 4), .inl (E.2.1, 8, .inl (y 3))), ((g 5), .inl (E.2.1, 120, .inl (y 4))), ((g 6), .inl (E.2.1, 60, .inl (v 5))), ((g 7), .inl (E.2.1, 180, .inl (v 6)))]) rfl (fun _ => rfl) rfl (Nat.le_of_ble_eq_true rfl) ⟨Nat.le_of_ble_eq_true rfl, Nat.le_of_ble_eq_true rfl⟩ rfl dX6_execute_67 (fun _ e_6 => ?_)
        refine x_iconst (v := 0) C dX6_execute_70 (by decide) ?_
        refine x_istore_n (lv1 := [(1, .int 0), (0, .ref (g 0))]) C dX6_execute_71 (by decide) rfl ?_
        refine Wd.locs (lv1 := [(0, .ref (g 0)), (1, .int 0)]) [1, 0] rfl ?_
        refine Wd.cast (w1 := [((g 0), .inr (6, [.ref (g 1), .ref (g 2), .ref (g 3), .int (y 7 0), .ref (g 4), .int (y 7 1), .ref (g 5), .int (y 7 2), .int (nI (cpP (y 4) L nc)), .int (v 7 4), .int (v 7 5), .ref (g 6), .ref (g 7), .long z])), ((g 1), .inl (E.2.1, 47, .inl (y 0))), ((g 2), .inl (E.2.1, 47, .inl (y 0))), ((g 3), .inl (E.2.1, 235, .inl (y 2))), ((g 4), .inl (E.2.1, 8, .inl (y 3))), ((g 5), .inl (E.2.1, 120, .inl (y 4))), ((g 6), .inl (E.2.1, 60, .inl (v 5))), ((g 7), .inl (E.2.1, 180, .inl (v 6)))]) (lv1 := [(0, .ref (g 0)), (1, .int (nI 0))]) rfl rfl rfl ?_
        refine Wd.wh2 (W1 := fun (i : Nat) (g1 : Nat → Int32) => [((g 0), .inr (6, [.ref (g 1), .ref (g 2), .ref (g 3), .int (y 7 0), .ref (g 4), .int (y 7 1), .ref (g 5), .int (y 7 2), .int (nI (cpP (y 4) L nc)), .int (v 7 4), .int (v 7 5), .ref (g 6), .ref (g 7), .long z])), ((g 1), .inl (E.2.1, 47, .inl g1)), ((g 2), .inl (E.2.1, 47, .inl (y 0))), ((g 3), .inl (E.2.1, 235, .inl (y 2))), ((g 4), .inl (E.2.1, 8, .inl (y 3))), ((g 5), .inl (E.2.1, 120, .inl (y 4))), ((g 6), .inl (E.2.1, 60, .inl (v 5))), ((g 7), .inl (E.2.1, 180, .inl (v 6)))]) (LV := fun (i : Nat) (g1 : Nat → Int32) => [(0, .ref (g 0)), (1, .int (nI i))]) (fun (i : Nat) (g1 : Nat → Int32) => i ≤ nc ∧ mxG (v 5) (v 6) (nc - i) i g1 = mxG (v 5) (v 6) nc 0 (y 0) ∧ gW g1) (fun (i : Nat) (g1 : Nat → Int32) => nc - i) 0 (y 0) (⟨Nat.zero_le _, rfl, w0⟩) (fun i g1 hI ih => ?_)
        refine Wd.cast (w1 := [((g 0), .inr (6, [.ref (g 1), .ref (g 2), .ref (g 3), .int (y 7 0), .ref (g 4), .int (y 7 1), .ref (g 5), .int (y 7 2), .int (nI (cpP (y 4) L nc)), .int (v 7 4), .int (v 7 5), .ref (g 6), .ref (g 7), .long z])), ((g 1), .inl (E.2.1, 47, .inl g1)), ((g 2), .inl (E.2.1, 47, .inl (y 0))), ((g 3), .inl (E.2.1, 235, .inl (y 2))), ((g 4), .inl (E.2.1, 8, .inl (y 3))), ((g 5), .inl (E.2.1, 120, .inl (y 4))), ((g 6), .inl (E.2.1, 60, .inl (v 5))), ((g 7), .inl (E.2.1, 180, .inl (v 6)))]) (lv1 := [(0, .ref (g 0)), (1, .int (nI i))]) rfl rfl rfl ?_
        obtain ⟨hJ1, hJ2, w1⟩ := hI
        refine x_iload_n C dX6_execute_72 1 rfl ?_
        refine x_aload_n C dX6_execute_73 0 rfl ?_
        refine x_get (ref := "RomSearchBusModel") (v := .int (v 7 5)) C inX6 0 10 rfl rfl (by decide) kw_fl_X6_158 rfl rfl dX6_execute_74 ?_
        refine x_icmp_ge (tgt := 114) C dX6_execute_77 (by decide) (fun c_77 => ?_) (fun c_77 => ?_)
        · have hge : nc ≤ i := nI_geN h5 rfl (by omega) (by omega) c_77
          refine x_aload_n C dX6_execute_114 0 rfl ?_
          refine x_callVV (wc := [((g 0), .inr (6, [.ref (g 1), .ref (g 2), .ref (g 3), .int (y 7 0), .ref (g 4), .int (y 7 1), .ref (g 5), .int (y 7 2), .int (nI (cpP (y 4) L nc)), .int (v 7 4), .int (v 7 5), .ref (g 6), .ref (g 7), .long z])), ((g 1), .inl (E.2.1, 47, .inl g1)), ((g 2), .inl (E.2.1, 47, .inl (y 0))), ((g 3), .inl (E.2.1, 235, .inl (y 2))), ((g 4), .inl (E.2.1, 8, .inl (y 3))), ((g 5), .inl (E.2.1, 120, .inl (y 4))), ((g 6), .inl (E.2.1, 60, .inl (v 5))), ((g 7), .inl (E.2.1, 180, .inl (v 6)))]) (wr := []) (As := []) (rest := []) (ci := 6) (q0 := 0) C (c_X6_save l E g (va_up (va_up (rs (rs (rs (va_up (va_up y 5 (v 5)) 6 (v 6)) 7 4 (v 7 4)) 7 5 (v 7 5)) 7 3 (nI (cpP (y 4) L nc))) 1 (y 0)) 0 g1) z c hc h5c) (gWV C kw_ml_X6_47 kw_im_X6_save kw_sel_X6_save kw_ini_X6 kw_code_X6_save ga_X6_save ⟨Nat.le_of_ble_eq_true rfl, Nat.le_of_ble_eq_true rfl⟩) rfl rfl [0, 1, 2, 3, 4, 5, 6, 7] [] [0, 1, 2, 3, 4, 5, 6, 7] rfl rfl rfl rfl (by decide) (fun _ => [((g 0), .inr (6, [.ref (g 1), .ref (g 2), .ref (g 3), .int (nI (pN c)), .ref (g 4), .int (y 7 1), .ref (g 5), .int (y 7 2), .int (nI (cpP (y 4) L nc)), .int (v 7 4), .int (v 7 5), .ref (g 6), .ref (g 7), .long z])), ((g 1), .inl (E.2.1, 47, .inl g1)), ((g 2), .inl (E.2.1, 47, .inl (y 0))), ((g 3), .inl (E.2.1, 235, .inl (svR (y 2) c (y 0)))), ((g 4), .inl (E.2.1, 8, .inl (y 3))), ((g 5), .inl (E.2.1, 120, .inl (y 4))), ((g 6), .inl (E.2.1, 60, .inl (v 5))), ((g 7), .inl (E.2.1, 180, .inl (v 6)))]) rfl (fun _ => rfl) rfl (Nat.le_of_ble_eq_true rfl) ⟨Nat.le_of_ble_eq_true rfl, Nat.le_of_ble_eq_true rfl⟩ rfl dX6_execute_115 (fun _ e_8 => ?_)
          refine x_aload_n C dX6_execute_118 0 rfl ?_
          refine x_get (ref := "RomSearchBusModel") (v := .int (v 7 5)) C inX6 0 10 rfl rfl (by decide) kw_fl_X6_158 rfl rfl dX6_execute_119 ?_
          have k0 : (prT (y 4) L).1 = true := by rw [← hpr]
          have kn : (prT (y 4) L).2.2 = nc := by rw [← hpr]
          have hT : mxT y (rs (va_up (va_up (va_up (rs (rs (rs (va_up (va_up y 5 (v 5)) 6 (v 6)) 7 4 (v 7 4)) 7 5 (v 7 5)) 7 3 (nI (cpP (y 4) L nc))) 1 (y 0)) 0 g1) 2 (svR (y 2) c (y 0))) 7 0 (nI (pN c))) L = (true, i, 0, g1) := by unfold mxT; rw [kn]; refine Eq.trans hJ2.symm ?_; rw [show nc - i = 0 by omega, mxG_0]
          have k1 : mxOk y (rs (va_up (va_up (va_up (rs (rs (rs (va_up (va_up y 5 (v 5)) 6 (v 6)) 7 4 (v 7 4)) 7 5 (v 7 5)) 7 3 (nI (cpP (y 4) L nc))) 1 (y 0)) 0 g1) 2 (svR (y 2) c (y 0))) 7 0 (nI (pN c))) L = true := by unfold mxOk; rw [hT, k0]; rfl
          have k2 : mxSt y (rs (va_up (va_up (va_up (rs (rs (rs (va_up (va_up y 5 (v 5)) 6 (v 6)) 7 4 (v 7 4)) 7 5 (v 7 5)) 7 3 (nI (cpP (y 4) L nc))) 1 (y 0)) 0 g1) 2 (svR (y 2) c (y 0))) 7 0 (nI (pN c))) L = false := by unfold mxSt; rw [hT, k0]; rfl
          have k3 : mxR y (rs (va_up (va_up (va_up (rs (rs (rs (va_up (va_up y 5 (v 5)) 6 (v 6)) 7 4 (v 7 4)) 7 5 (v 7 5)) 7 3 (nI (cpP (y 4) L nc))) 1 (y 0)) 0 g1) 2 (svR (y 2) c (y 0))) 7 0 (nI (pN c))) L = (v 7 5) := by unfold mxR; rw [if_pos k0, hT, kn]; exact (if_pos rfl).trans h5.symm
          have k4 : (prT (y 4) L).1 = true → ∀ i, i < (prT (y 4) L).2.2 → prM (y 4) L (rs (va_up (va_up (va_up (rs (rs (rs (va_up (va_up y 5 (v 5)) 6 (v 6)) 7 4 (v 7 4)) 7 5 (v 7 5)) 7 3 (nI (cpP (y 4) L nc))) 1 (y 0)) 0 g1) 2 (svR (y 2) c (y 0))) 7 0 (nI (pN c))) i := fun _ => by rw [kn]; exact hall
          exact x_iret C hr hlocks rfl (rs (va_up (va_up (va_up (rs (rs (rs (va_up (va_up y 5 (v 5)) 6 (v 6)) 7 4 (v 7 4)) 7 5 (v 7 5)) 7 3 (nI (cpP (y 4) L nc))) 1 (y 0)) 0 g1) 2 (svR (y 2) c (y 0))) 7 0 (nI (pN c))) ⟨k3.symm, k4⟩ (by simp only [ySel_t k1, ySel_f k2]; rw [hT]; dsimp only; exact gEq.rf _) dX6_execute_122
        · have hlt2 : i < nc := nI_lt60 (by rw [← h5]; exact c_77) hJ1 (by omega)
          refine x_aload_n C dX6_execute_80 0 rfl ?_
          refine x_iload_n C dX6_execute_81 1 rfl ?_
          refine x_callVI (wc := [((g 0), .inr (6, [.ref (g 1), .ref (g 2), .ref (g 3), .int (y 7 0), .ref (g 4), .int (y 7 1), .ref (g 5), .int (y 7 2), .int (nI (cpP (y 4) L nc)), .int (v 7 4), .int (v 7 5), .ref (g 6), .ref (g 7), .long z])), ((g 1), .inl (E.2.1, 47, .inl g1)), ((g 2), .inl (E.2.1, 47, .inl (y 0))), ((g 3), .inl (E.2.1, 235, .inl (y 2))), ((g 4), .inl (E.2.1, 8, .inl (y 3))), ((g 5), .inl (E.2.1, 120, .inl (y 4))), ((g 6), .inl (E.2.1, 60, .inl (v 5))), ((g 7), .inl (E.2.1, 180, .inl (v 6)))]) (wr := []) (As := [.int (nI i)]) (rest := []) (ci := 6) (q0 := 0) C (c_X6_doCommand l E g (va_up (va_up (rs (rs (rs (va_up (va_up y 5 (v 5)) 6 (v 6)) 7 4 (v 7 4)) 7 5 (v 7 5)) 7 3 (nI (cpP (y 4) L nc))) 1 (y 0)) 0 g1) z (nI i) i (gN g1) (gH g1) w1.n.1 w1.n.2 w1.m.1 w1.m.2 rfl (by omega)) (gWV C kw_ml_X6_168 kw_im_X6_doCommand kw_sel_X6_doCommand kw_ini_X6 kw_code_X6_doCommand ga_X6_doCommand ⟨Nat.le_of_ble_eq_true rfl, Nat.le_of_ble_eq_true rfl⟩) rfl rfl [0, 1, 2, 3, 4, 5, 6, 7] [] [0, 1, 2, 3, 4, 5, 6, 7] rfl rfl rfl rfl (by decide) (fun _ => [((g 0), .inr (6, [.ref (g 1), .ref (g 2), .ref (g 3), .int (y 7 0), .ref (g 4), .int (y 7 1), .ref (g 5), .int (y 7 2), .int (nI (cpP (y 4) L nc)), .int (v 7 4), .int (v 7 5), .ref (g 6), .ref (g 7), .long z])), ((g 1), .inl (E.2.1, 47, .inl (mdG g1 (gN g1) (gH g1) ((va_up (va_up (rs (rs (rs (va_up (va_up y 5 (v 5)) 6 (v 6)) 7 4 (v 7 4)) 7 5 (v 7 5)) 7 3 (nI (cpP (y 4) L nc))) 1 (y 0)) 0 g1) 5 i) ((va_up (va_up (rs (rs (rs (va_up (va_up y 5 (v 5)) 6 (v 6)) 7 4 (v 7 4)) 7 5 (v 7 5)) 7 3 (nI (cpP (y 4) L nc))) 1 (y 0)) 0 g1) 6 (3 * i)) ((va_up (va_up (rs (rs (rs (va_up (va_up y 5 (v 5)) 6 (v 6)) 7 4 (v 7 4)) 7 5 (v 7 5)) 7 3 (nI (cpP (y 4) L nc))) 1 (y 0)) 0 g1) 6 (3 * i + 1)) ((va_up (va_up (rs (rs (rs (va_up (va_up y 5 (v 5)) 6 (v 6)) 7 4 (v 7 4)) 7 5 (v 7 5)) 7 3 (nI (cpP (y 4) L nc))) 1 (y 0)) 0 g1) 6 (3 * i + 2))))), ((g 2), .inl (E.2.1, 47, .inl (y 0))), ((g 3), .inl (E.2.1, 235, .inl (y 2))), ((g 4), .inl (E.2.1, 8, .inl (y 3))), ((g 5), .inl (E.2.1, 120, .inl (y 4))), ((g 6), .inl (E.2.1, 60, .inl (v 5))), ((g 7), .inl (E.2.1, 180, .inl (v 6)))]) rfl (fun _ => rfl) rfl (Nat.le_of_ble_eq_true rfl) ⟨Nat.le_of_ble_eq_true rfl, Nat.le_of_ble_eq_true rfl⟩ rfl dX6_execute_82 (fun r_9 _ e_10 => ?_)
          subst e_10
          refine Wd.cast (w1 := [((g 0), .inr (6, [.ref (g 1), .ref (g 2), .ref (g 3), .int (y 7 0), .ref (g 4), .int (y 7 1), .ref (g 5), .int (y 7 2), .int (nI (cpP (y 4) L nc)), .int (v 7 4), .int (v 7 5), .ref (g 6), .ref (g 7), .long z])), ((g 1), .inl (E.2.1, 47, .inl (mdG g1 (gN g1) (gH g1) ((va_up (va_up (rs (rs (rs (va_up (va_up y 5 (v 5)) 6 (v 6)) 7 4 (v 7 4)) 7 5 (v 7 5)) 7 3 (nI (cpP (y 4) L nc))) 1 (y 0)) 0 g1) 5 i) ((va_up (va_up (rs (rs (rs (va_up (va_up y 5 (v 5)) 6 (v 6)) 7 4 (v 7 4)) 7 5 (v 7 5)) 7 3 (nI (cpP (y 4) L nc))) 1 (y 0)) 0 g1) 6 (3 * i)) ((va_up (va_up (rs (rs (rs (va_up (va_up y 5 (v 5)) 6 (v 6)) 7 4 (v 7 4)) 7 5 (v 7 5)) 7 3 (nI (cpP (y 4) L nc))) 1 (y 0)) 0 g1) 6 (3 * i + 1)) ((va_up (va_up (rs (rs (rs (va_up (va_up y 5 (v 5)) 6 (v 6)) 7 4 (v 7 4)) 7 5 (v 7 5)) 7 3 (nI (cpP (y 4) L nc))) 1 (y 0)) 0 g1) 6 (3 * i + 2))))), ((g 2), .inl (E.2.1, 47, .inl (y 0))), ((g 3), .inl (E.2.1, 235, .inl (y 2))), ((g 4), .inl (E.2.1, 8, .inl (y 3))), ((g 5), .inl (E.2.1, 120, .inl (y 4))), ((g 6), .inl (E.2.1, 60, .inl (v 5))), ((g 7), .inl (E.2.1, 180, .inl (v 6)))]) (lv1 := [(0, .ref (g 0)), (1, .int (nI i))]) (st1 := [.int (mdR g1 (gN g1) ((va_up (va_up (rs (rs (rs (va_up (va_up y 5 (v 5)) 6 (v 6)) 7 4 (v 7 4)) 7 5 (v 7 5)) 7 3 (nI (cpP (y 4) L nc))) 1 (y 0)) 0 g1) 5 i) ((va_up (va_up (rs (rs (rs (va_up (va_up y 5 (v 5)) 6 (v 6)) 7 4 (v 7 4)) 7 5 (v 7 5)) 7 3 (nI (cpP (y 4) L nc))) 1 (y 0)) 0 g1) 6 (3 * i)) ((va_up (va_up (rs (rs (rs (va_up (va_up y 5 (v 5)) 6 (v 6)) 7 4 (v 7 4)) 7 5 (v 7 5)) 7 3 (nI (cpP (y 4) L nc))) 1 (y 0)) 0 g1) 6 (3 * i + 1)) ((va_up (va_up (rs (rs (rs (va_up (va_up y 5 (v 5)) 6 (v 6)) 7 4 (v 7 4)) 7 5 (v 7 5)) 7 3 (nI (cpP (y 4) L nc))) 1 (y 0)) 0 g1) 6 (3 * i + 2)))]) rfl rfl rfl ?_
          refine Wd.cast (w1 := [((g 0), .inr (6, [.ref (g 1), .ref (g 2), .ref (g 3), .int (y 7 0), .ref (g 4), .int (y 7 1), .ref (g 5), .int (y 7 2), .int (nI (cpP (y 4) L nc)), .int (v 7 4), .int (v 7 5), .ref (g 6), .ref (g 7), .long z])), ((g 1), .inl (E.2.1, 47, .inl (mdG g1 (gN g1) (gH g1) (v 5 i) (v 6 (3 * i)) (v 6 (3 * i + 1)) (v 6 (3 * i + 2))))), ((g 2), .inl (E.2.1, 47, .inl (y 0))), ((g 3), .inl (E.2.1, 235, .inl (y 2))), ((g 4), .inl (E.2.1, 8, .inl (y 3))), ((g 5), .inl (E.2.1, 120, .inl (y 4))), ((g 6), .inl (E.2.1, 60, .inl (v 5))), ((g 7), .inl (E.2.1, 180, .inl (v 6)))]) (lv1 := [(0, .ref (g 0)), (1, .int (nI i))]) (st1 := [.int (mdR g1 (gN g1) (v 5 i) (v 6 (3 * i)) (v 6 (3 * i + 1)) (v 6 (3 * i + 2)))]) rfl rfl rfl ?_
          obtain ⟨R1, hg_R1⟩ : ∃ x_, x_ = mdR g1 (gN g1) (v 5 i) (v 6 (3 * i)) (v 6 (3 * i + 1)) (v 6 (3 * i + 2)) := ⟨_, rfl⟩
          rw [← hg_R1]
          obtain ⟨G1, hg_G1⟩ : ∃ x_, x_ = mdG g1 (gN g1) (gH g1) (v 5 i) (v 6 (3 * i)) (v 6 (3 * i + 1)) (v 6 (3 * i + 2)) := ⟨_, rfl⟩
          rw [← hg_G1]
          refine x_istore_n (lv1 := [(2, .int R1), (0, .ref (g 0)), (1, .int (nI i))]) C dX6_execute_85 (by decide) rfl ?_
          refine x_iload_n C dX6_execute_86 0 rfl ?_
          refine x_callSI (wc := []) (wr := [((g 0), .inr (6, [.ref (g 1), .ref (g 2), .ref (g 3), .int (y 7 0), .ref (g 4), .int (y 7 1), .ref (g 5), .int (y 7 2), .int (nI (cpP (y 4) L nc)), .int (v 7 4), .int (v 7 5), .ref (g 6), .ref (g 7), .long z])), ((g 1), .inl (E.2.1, 47, .inl G1)), ((g 2), .inl (E.2.1, 47, .inl (y 0))), ((g 3), .inl (E.2.1, 235, .inl (y 2))), ((g 4), .inl (E.2.1, 8, .inl (y 3))), ((g 5), .inl (E.2.1, 120, .inl (y 4))), ((g 6), .inl (E.2.1, 60, .inl (v 5))), ((g 7), .inl (E.2.1, 180, .inl (v 6)))]) (As := [.int R1]) (rest := []) C (c_X6_isError l E R1 ) (gWS C kw_ml_X6_39 kw_st_X6_isError kw_ini_X6 kw_code_X6_isError ga_X6_isError ⟨Nat.le_of_ble_eq_true rfl, Nat.le_of_ble_eq_true rfl⟩) [] [0, 1, 2, 3, 4, 5, 6, 7] [0, 1, 2, 3, 4, 5, 6, 7] rfl rfl rfl rfl (by decide) (fun _ => [((g 0), .inr (6, [.ref (g 1), .ref (g 2), .ref (g 3), .int (y 7 0), .ref (g 4), .int (y 7 1), .ref (g 5), .int (y 7 2), .int (nI (cpP (y 4) L nc)), .int (v 7 4), .int (v 7 5), .ref (g 6), .ref (g 7), .long z])), ((g 1), .inl (E.2.1, 47, .inl G1)), ((g 2), .inl (E.2.1, 47, .inl (y 0))), ((g 3), .inl (E.2.1, 235, .inl (y 2))), ((g 4), .inl (E.2.1, 8, .inl (y 3))), ((g 5), .inl (E.2.1, 120, .inl (y 4))), ((g 6), .inl (E.2.1, 60, .inl (v 5))), ((g 7), .inl (E.2.1, 180, .inl (v 6)))]) rfl (fun _ => rfl) rfl (Nat.le_of_ble_eq_true rfl) ⟨Nat.le_of_ble_eq_true rfl, Nat.le_of_ble_eq_true rfl⟩ rfl dX6_execute_87 (fun r_11 _ e_12 => ?_)
          subst e_12
          refine x_ifB_eq (tgt := 108) C dX6_execute_90 (by decide) (fun c_90 => ?_) (fun c_90 => ?_)
          · refine x_iinc (j := 2) (v := (nI (i + 1))) (lv1 := [(1, .int (nI (i + 1))), (2, .int R1), (0, .ref (g 0))]) C dX6_execute_108 rfl (nI_1 _) (by decide) rfl ?_
            refine x_goto (tgt := 72) C dX6_execute_111 (by decide) ?_
            refine Wd.locs (lv1 := [(0, .ref (g 0)), (1, .int (nI (i + 1)))]) [2, 0] rfl ?_
            exact Wd.cast (w1 := [((g 0), .inr (6, [.ref (g 1), .ref (g 2), .ref (g 3), .int (y 7 0), .ref (g 4), .int (y 7 1), .ref (g 5), .int (y 7 2), .int (nI (cpP (y 4) L nc)), .int (v 7 4), .int (v 7 5), .ref (g 6), .ref (g 7), .long z])), ((g 1), .inl (E.2.1, 47, .inl G1)), ((g 2), .inl (E.2.1, 47, .inl (y 0))), ((g 3), .inl (E.2.1, 235, .inl (y 2))), ((g 4), .inl (E.2.1, 8, .inl (y 3))), ((g 5), .inl (E.2.1, 120, .inl (y 4))), ((g 6), .inl (E.2.1, 60, .inl (v 5))), ((g 7), .inl (E.2.1, 180, .inl (v 6)))]) (lv1 := [(0, .ref (g 0)), (1, .int (nI (i + 1)))]) rfl rfl rfl (ih (i + 1) G1 (⟨by omega, by rw [← hJ2, show nc - i = (nc - (i + 1)) + 1 by omega, mxG_s, ← hg_R1, if_neg c_90, ← hg_G1], by rw [hg_G1]; exact w1.cmd _ _ _ _⟩) (by omega))
          · refine x_aload_n C dX6_execute_93 1 rfl ?_
            refine x_iload_n C dX6_execute_94 0 rfl ?_
            refine x_put (ref := "RomSearchBusModel") C inX6 tyX6 tyX6_ok nmX6 0 5 rfl rfl (by decide) kw_fl_X6_171 rfl rfl rfl rfl (Nat.le_of_ble_eq_true rfl) [((g 0), .inr (6, [.ref (g 1), .ref (g 2), .ref (g 3), .int (y 7 0), .ref (g 4), .int R1, .ref (g 5), .int (y 7 2), .int (nI (cpP (y 4) L nc)), .int (v 7 4), .int (v 7 5), .ref (g 6), .ref (g 7), .long z])), ((g 1), .inl (E.2.1, 47, .inl G1)), ((g 2), .inl (E.2.1, 47, .inl (y 0))), ((g 3), .inl (E.2.1, 235, .inl (y 2))), ((g 4), .inl (E.2.1, 8, .inl (y 3))), ((g 5), .inl (E.2.1, 120, .inl (y 4))), ((g 6), .inl (E.2.1, 60, .inl (v 5))), ((g 7), .inl (E.2.1, 180, .inl (v 6)))] rfl dX6_execute_95 ?_
            refine x_aload_n C dX6_execute_98 1 rfl ?_
            refine x_callVV (wc := [((g 0), .inr (6, [.ref (g 1), .ref (g 2), .ref (g 3), .int (y 7 0), .ref (g 4), .int R1, .ref (g 5), .int (y 7 2), .int (nI (cpP (y 4) L nc)), .int (v 7 4), .int (v 7 5), .ref (g 6), .ref (g 7), .long z])), ((g 1), .inl (E.2.1, 47, .inl G1)), ((g 2), .inl (E.2.1, 47, .inl (y 0))), ((g 3), .inl (E.2.1, 235, .inl (y 2))), ((g 4), .inl (E.2.1, 8, .inl (y 3))), ((g 5), .inl (E.2.1, 120, .inl (y 4))), ((g 6), .inl (E.2.1, 60, .inl (v 5))), ((g 7), .inl (E.2.1, 180, .inl (v 6)))]) (wr := []) (As := []) (rest := []) (ci := 6) (q0 := 0) C (c_X6_restore l E g (rs (va_up (va_up (rs (rs (rs (va_up (va_up y 5 (v 5)) 6 (v 6)) 7 4 (v 7 4)) 7 5 (v 7 5)) 7 3 (nI (cpP (y 4) L nc))) 1 (y 0)) 0 G1) 7 1 R1) z ) (gWV C kw_ml_X6_126 kw_im_X6_restore kw_sel_X6_restore kw_ini_X6 kw_code_X6_restore ga_X6_restore ⟨Nat.le_of_ble_eq_true rfl, Nat.le_of_ble_eq_true rfl⟩) rfl rfl [0, 1, 2, 3, 4, 5, 6, 7] [] [0, 1, 2, 3, 4, 5, 6, 7] rfl rfl rfl rfl (by decide) (fun _ => [((g 0), .inr (6, [.ref (g 1), .ref (g 2), .ref (g 3), .int (y 7 0), .ref (g 4), .int R1, .ref (g 5), .int (y 7 2), .int (nI (cpP (y 4) L nc)), .int (v 7 4), .int (v 7 5), .ref (g 6), .ref (g 7), .long z])), ((g 1), .inl (E.2.1, 47, .inl (y 0))), ((g 2), .inl (E.2.1, 47, .inl (y 0))), ((g 3), .inl (E.2.1, 235, .inl (y 2))), ((g 4), .inl (E.2.1, 8, .inl (y 3))), ((g 5), .inl (E.2.1, 120, .inl (y 4))), ((g 6), .inl (E.2.1, 60, .inl (v 5))), ((g 7), .inl (E.2.1, 180, .inl (v 6)))]) rfl (fun _ => rfl) rfl (Nat.le_of_ble_eq_true rfl) ⟨Nat.le_of_ble_eq_true rfl, Nat.le_of_ble_eq_true rfl⟩ rfl dX6_execute_99 (fun _ e_14 => ?_)
            refine x_sipush (v := (-1000)) C dX6_execute_102 (by decide) ?_
            refine x_iload_n C dX6_execute_105 2 rfl ?_
            refine x_isub C dX6_execute_106 ?_
            have k0 : (prT (y 4) L).1 = true := by rw [← hpr]
            have kn : (prT (y 4) L).2.2 = nc := by rw [← hpr]
            have hT : mxT y (va_up (rs (va_up (rs (rs (rs (va_up (va_up y 5 (v 5)) 6 (v 6)) 7 4 (v 7 4)) 7 5 (v 7 5)) 7 3 (nI (cpP (y 4) L nc))) 1 (y 0)) 7 1 R1) 0 (y 0)) L = (false, i, R1, g1) := by unfold mxT; rw [kn]; refine Eq.trans hJ2.symm ?_; rw [show nc - i = (nc - i - 1) + 1 by omega, mxG_s, ← hg_R1, if_pos c_90]
            have k1 : mxOk y (va_up (rs (va_up (rs (rs (rs (va_up (va_up y 5 (v 5)) 6 (v 6)) 7 4 (v 7 4)) 7 5 (v 7 5)) 7 3 (nI (cpP (y 4) L nc))) 1 (y 0)) 7 1 R1) 0 (y 0)) L = false := by unfold mxOk; rw [hT, k0]; rfl
            have k2 : mxSt y (va_up (rs (va_up (rs (rs (rs (va_up (va_up y 5 (v 5)) 6 (v 6)) 7 4 (v 7 4)) 7 5 (v 7 5)) 7 3 (nI (cpP (y 4) L nc))) 1 (y 0)) 7 1 R1) 0 (y 0)) L = true := by unfold mxSt; rw [hT, k0]; rfl
            have k3 : mxR y (va_up (rs (va_up (rs (rs (rs (va_up (va_up y 5 (v 5)) 6 (v 6)) 7 4 (v 7 4)) 7 5 (v 7 5)) 7 3 (nI (cpP (y 4) L nc))) 1 (y 0)) 7 1 R1) 0 (y 0)) L = ((-1000) - (nI i)) := by unfold mxR; rw [if_pos k0, hT]; exact if_neg Bool.false_ne_true
            have k4 : (prT (y 4) L).1 = true → ∀ i, i < (prT (y 4) L).2.2 → prM (y 4) L (va_up (rs (va_up (rs (rs (rs (va_up (va_up y 5 (v 5)) 6 (v 6)) 7 4 (v 7 4)) 7 5 (v 7 5)) 7 3 (nI (cpP (y 4) L nc))) 1 (y 0)) 7 1 R1) 0 (y 0)) i := fun _ => by rw [kn]; exact hall
            exact x_iret C hr hlocks rfl (va_up (rs (va_up (rs (rs (rs (va_up (va_up y 5 (v 5)) 6 (v 6)) 7 4 (v 7 4)) 7 5 (v 7 5)) 7 3 (nI (cpP (y 4) L nc))) 1 (y 0)) 7 1 R1) 0 (y 0)) ⟨k3.symm, k4⟩ (by simp only [ySel_f k1, ySel_t k2]; rw [hT, ← hc]; dsimp only; exact gEq.rf _) dX6_execute_107
      · have hlt : (cpP (y 4) L nc) < L := (atP_nn hb).1 (Int32.not_lt.mp c_41)
        refine x_aload_n C dX6_execute_44 0 rfl ?_
        refine x_callVV (wc := [((g 0), .inr (6, [.ref (g 1), .ref (g 2), .ref (g 3), .int (y 7 0), .ref (g 4), .int (y 7 1), .ref (g 5), .int (y 7 2), .int (nI (cpP (y 4) L nc)), .int (v 7 4), .int (v 7 5), .ref (g 6), .ref (g 7), .long z])), ((g 1), .inl (E.2.1, 47, .inl (y 0))), ((g 2), .inl (E.2.1, 47, .inl (y 1))), ((g 3), .inl (E.2.1, 235, .inl (y 2))), ((g 4), .inl (E.2.1, 8, .inl (y 3))), ((g 5), .inl (E.2.1, 120, .inl (y 4))), ((g 6), .inl (E.2.1, 60, .inl (v 5))), ((g 7), .inl (E.2.1, 180, .inl (v 6)))]) (wr := []) (As := []) (rest := []) (ci := 6) (q0 := 0) C (c_X6_parseCommand l E g (rs (rs (rs (va_up (va_up y 5 (v 5)) 6 (v 6)) 7 4 (v 7 4)) 7 5 (v 7 5)) 7 3 (nI (cpP (y 4) L nc))) z L (cpP (y 4) L nc) nc ht hL2 rfl (by omega) hs h5 (by omega) (cpP_sk _ _ _)) (gWV C kw_ml_X6_165 kw_im_X6_parseCommand kw_sel_X6_parseCommand kw_ini_X6 kw_code_X6_parseCommand ga_X6_parseCommand ⟨Nat.le_of_ble_eq_true rfl, Nat.le_of_ble_eq_true rfl⟩) rfl rfl [0, 1, 2, 3, 4, 5, 6, 7] [] [0, 1, 2, 3, 4, 5, 6, 7] rfl rfl rfl rfl (by decide) (fun u_15 => [((g 0), .inr (6, [.ref (g 1), .ref (g 2), .ref (g 3), .int (y 7 0), .ref (g 4), .int (y 7 1), .ref (g 5), .int (y 7 2), .int (u_15 7 3), .int (u_15 7 4), .int (u_15 7 5), .ref (g 6), .ref (g 7), .long z])), ((g 1), .inl (E.2.1, 47, .inl (y 0))), ((g 2), .inl (E.2.1, 47, .inl (y 1))), ((g 3), .inl (E.2.1, 235, .inl (y 2))), ((g 4), .inl (E.2.1, 8, .inl (y 3))), ((g 5), .inl (E.2.1, 120, .inl (y 4))), ((g 6), .inl (E.2.1, 60, .inl (u_15 5))), ((g 7), .inl (E.2.1, 180, .inl (u_15 6)))]) rfl (fun _ => rfl) rfl (Nat.le_of_ble_eq_true rfl) ⟨Nat.le_of_ble_eq_true rfl, Nat.le_of_ble_eq_true rfl⟩ rfl dX6_execute_45 (fun u_15 e_17 => ?_)
        have hstep := exI_s (w := (rs (rs (rs (va_up (va_up y 5 (u_15 5)) 6 (u_15 6)) 7 3 (u_15 7 3)) 7 4 (u_15 7 4)) 7 5 (u_15 7 5))) hL2 hs h2 hlt hpr hall e_17.1 e_17.2.1 e_17.2.2.1 e_17.2.2.2
        refine x_goto (tgt := 30) C dX6_execute_48 (by decide) ?_
        exact Wd.cast (w1 := [((g 0), .inr (6, [.ref (g 1), .ref (g 2), .ref (g 3), .int (y 7 0), .ref (g 4), .int (y 7 1), .ref (g 5), .int (y 7 2), .int ((rs (rs (rs (va_up (va_up y 5 (u_15 5)) 6 (u_15 6)) 7 3 (u_15 7 3)) 7 4 (u_15 7 4)) 7 5 (u_15 7 5)) 7 3), .int ((rs (rs (rs (va_up (va_up y 5 (u_15 5)) 6 (u_15 6)) 7 3 (u_15 7 3)) 7 4 (u_15 7 4)) 7 5 (u_15 7 5)) 7 4), .int ((rs (rs (rs (va_up (va_up y 5 (u_15 5)) 6 (u_15 6)) 7 3 (u_15 7 3)) 7 4 (u_15 7 4)) 7 5 (u_15 7 5)) 7 5), .ref (g 6), .ref (g 7), .long z])), ((g 1), .inl (E.2.1, 47, .inl (y 0))), ((g 2), .inl (E.2.1, 47, .inl (y 1))), ((g 3), .inl (E.2.1, 235, .inl (y 2))), ((g 4), .inl (E.2.1, 8, .inl (y 3))), ((g 5), .inl (E.2.1, 120, .inl (y 4))), ((g 6), .inl (E.2.1, 60, .inl ((rs (rs (rs (va_up (va_up y 5 (u_15 5)) 6 (u_15 6)) 7 3 (u_15 7 3)) 7 4 (u_15 7 4)) 7 5 (u_15 7 5)) 5))), ((g 7), .inl (E.2.1, 180, .inl ((rs (rs (rs (va_up (va_up y 5 (u_15 5)) 6 (u_15 6)) 7 3 (u_15 7 3)) 7 4 (u_15 7 4)) 7 5 (u_15 7 5)) 6)))]) (lv1 := [(0, .ref (g 0))]) rfl rfl rfl (ih (ySel (rcT (y 4) L (cpP (y 4) L nc)).1 (nc + 1) nc) (rs (rs (rs (va_up (va_up y 5 (u_15 5)) 6 (u_15 6)) 7 3 (u_15 7 3)) 7 4 (u_15 7 4)) 7 5 (u_15 7 5)) hstep.1 hstep.2)
  · refine x_bipush (v := (-10)) C dX6_execute_22 (by decide) ?_
    refine x_aload_n C dX6_execute_24 0 rfl ?_
    refine x_get (ref := "RomSearchBusModel") (v := .int (y 7 2)) C inX6 0 7 rfl rfl (by decide) kw_fl_X6_135 rfl rfl dX6_execute_25 ?_
    refine x_isub C dX6_execute_28 ?_
    have hP : (prT (y 4) L) = (false, L, 0) := prT_empty (fun z0 => c_19 ((atP_nn hb).2 z0))
    have k0 : (prT (y 4) L).1 = false := by rw [hP]
    have k1 : mxOk y (rs (rs (rs y 7 4 (-1)) 7 5 0) 7 3 (nI (skip (y 4) L 0))) L = false := by unfold mxOk; rw [k0]; rfl
    have k2 : mxSt y (rs (rs (rs y 7 4 (-1)) 7 5 0) 7 3 (nI (skip (y 4) L 0))) L = false := by unfold mxSt; rw [k0]; rfl
    have k3 : mxR y (rs (rs (rs y 7 4 (-1)) 7 5 0) 7 3 (nI (skip (y 4) L 0))) L = ((-10) - (y 7 2)) := by unfold mxR; rw [if_neg (by rw [k0]; exact Bool.false_ne_true), hP, ht]
    have k4 : (prT (y 4) L).1 = true → ∀ i, i < (prT (y 4) L).2.2 → prM (y 4) L (rs (rs (rs y 7 4 (-1)) 7 5 0) 7 3 (nI (skip (y 4) L 0))) i := fun z0 => absurd z0 (by rw [k0]; exact Bool.false_ne_true)
    exact x_iret C hr hlocks rfl (rs (rs (rs y 7 4 (-1)) 7 5 0) 7 3 (nI (skip (y 4) L 0))) ⟨k3.symm, k4⟩ (by simp only [ySel_f k1, ySel_f k2]; rw [← hc]; exact gEq.rf _) dX6_execute_29
