def f_X6_numbersOf_r (v : Int32) : Int32 := if v = 100 then 2 else (if v = 107 then 0 else (if v = 108 then 3 else (if v = 109 then 1 else (if v = 110 then 0 else (if v = 114 then 0 else (if v = 118 then 2 else (if v = 120 then 1 else (-1))))))))
set_option maxHeartbeats 4000000 in
set_option maxRecDepth 100000 in
theorem c_X6_numbersOf (l : Launch) (E : gE) (v : Int32)  : CtI l E yX6_numbersOf prog_8_method_59_code 1 (some .int) 0 0 0 0 [.int v] [] (fun r (_ : Unit) => r = f_X6_numbersOf_r v) (fun _ => []) := by
  refine CtI.start (by decide) (Nat.le_of_ble_eq_true rfl) ?_
  intro p_ e_ s_ m_ below_ meth_ c_ A_ C hr hlocks hnm
  refine Wd.cast (lv1 := [(0, .int v)]) rfl rfl rfl ?_
  refine x_iload_n C dX6_numbersOf_0 0 rfl ?_
  by_cases s_1_100 : v = 100
  · refine x_tabIn (tgt := 104) C dX6_numbersOf_1 (by rw [s_1_100]; decide) (by rw [s_1_100]; decide) (by rw [s_1_100]; rfl) (by decide) ?_
    refine x_iconst (v := 2) C dX6_numbersOf_104 (by decide) ?_
    exact x_iret C hr hlocks rfl () (Eq.symm (by unfold f_X6_numbersOf_r; rw [if_pos s_1_100])) (gEq.rf _) dX6_numbersOf_105
  by_cases s_1_107 : v = 107
  · refine x_tabIn (tgt := 100) C dX6_numbersOf_1 (by rw [s_1_107]; decide) (by rw [s_1_107]; decide) (by rw [s_1_107]; rfl) (by decide) ?_
    refine x_iconst (v := 0) C dX6_numbersOf_100 (by decide) ?_
    exact x_iret C hr hlocks rfl () (Eq.symm (by unfold f_X6_numbersOf_r; rw [if_neg s_1_100, if_pos s_1_107])) (gEq.rf _) dX6_numbersOf_101
  by_cases s_1_108 : v = 108
  · refine x_tabIn (tgt := 106) C dX6_numbersOf_1 (by rw [s_1_108]; decide) (by rw [s_1_108]; decide) (by rw [s_1_108]; rfl) (by decide) ?_
    refine x_iconst (v := 3) C dX6_numbersOf_106 (by decide) ?_
    exact x_iret C hr hlocks rfl () (Eq.symm (by unfold f_X6_numbersOf_r; rw [if_neg s_1_100, if_neg s_1_107, if_pos s_1_108])) (gEq.rf _) dX6_numbersOf_107
  by_cases s_1_109 : v = 109
  · refine x_tabIn (tgt := 102) C dX6_numbersOf_1 (by rw [s_1_109]; decide) (by rw [s_1_109]; decide) (by rw [s_1_109]; rfl) (by decide) ?_
    refine x_iconst (v := 1) C dX6_numbersOf_102 (by decide) ?_
    exact x_iret C hr hlocks rfl () (Eq.symm (by unfold f_X6_numbersOf_r; rw [if_neg s_1_100, if_neg s_1_107, if_neg s_1_108, if_pos s_1_109])) (gEq.rf _) dX6_numbersOf_103
  by_cases s_1_110 : v = 110
  · refine x_tabIn (tgt := 100) C dX6_numbersOf_1 (by rw [s_1_110]; decide) (by rw [s_1_110]; decide) (by rw [s_1_110]; rfl) (by decide) ?_
    refine x_iconst (v := 0) C dX6_numbersOf_100 (by decide) ?_
    exact x_iret C hr hlocks rfl () (Eq.symm (by unfold f_X6_numbersOf_r; rw [if_neg s_1_100, if_neg s_1_107, if_neg s_1_108, if_neg s_1_109, if_pos s_1_110])) (gEq.rf _) dX6_numbersOf_101
  by_cases s_1_114 : v = 114
  · refine x_tabIn (tgt := 100) C dX6_numbersOf_1 (by rw [s_1_114]; decide) (by rw [s_1_114]; decide) (by rw [s_1_114]; rfl) (by decide) ?_
    refine x_iconst (v := 0) C dX6_numbersOf_100 (by decide) ?_
    exact x_iret C hr hlocks rfl () (Eq.symm (by unfold f_X6_numbersOf_r; rw [if_neg s_1_100, if_neg s_1_107, if_neg s_1_108, if_neg s_1_109, if_neg s_1_110, if_pos s_1_114])) (gEq.rf _) dX6_numbersOf_101
  by_cases s_1_118 : v = 118
  · refine x_tabIn (tgt := 104) C dX6_numbersOf_1 (by rw [s_1_118]; decide) (by rw [s_1_118]; decide) (by rw [s_1_118]; rfl) (by decide) ?_
    refine x_iconst (v := 2) C dX6_numbersOf_104 (by decide) ?_
    exact x_iret C hr hlocks rfl () (Eq.symm (by unfold f_X6_numbersOf_r; rw [if_neg s_1_100, if_neg s_1_107, if_neg s_1_108, if_neg s_1_109, if_neg s_1_110, if_neg s_1_114, if_pos s_1_118])) (gEq.rf _) dX6_numbersOf_105
  by_cases s_1_120 : v = 120
  · refine x_tabIn (tgt := 102) C dX6_numbersOf_1 (by rw [s_1_120]; decide) (by rw [s_1_120]; decide) (by rw [s_1_120]; rfl) (by decide) ?_
    refine x_iconst (v := 1) C dX6_numbersOf_102 (by decide) ?_
    exact x_iret C hr hlocks rfl () (Eq.symm (by unfold f_X6_numbersOf_r; rw [if_neg s_1_100, if_neg s_1_107, if_neg s_1_108, if_neg s_1_109, if_neg s_1_110, if_neg s_1_114, if_neg s_1_118, if_pos s_1_120])) (gEq.rf _) dX6_numbersOf_103
  by_cases o_1 : (v).toInt < 100 ∨ 120 < (v).toInt
  · refine x_tabOut (tgt := 108) C dX6_numbersOf_1 o_1 (by decide) ?_
    refine x_iconst (v := (-1)) C dX6_numbersOf_108 (by decide) ?_
    exact x_iret C hr hlocks rfl () (Eq.symm (by unfold f_X6_numbersOf_r; rw [if_neg s_1_100, if_neg s_1_107, if_neg s_1_108, if_neg s_1_109, if_neg s_1_110, if_neg s_1_114, if_neg s_1_118, if_neg s_1_120])) (gEq.rf _) dX6_numbersOf_109
  refine x_tabIn (off := 107) (tgt := 108) C dX6_numbersOf_1 (fun q => o_1 (Or.inl q)) (fun q => o_1 (Or.inr q)) ?_ (by decide) ?_
  · simp only [← Int32.toInt_inj] at s_1_100 s_1_107 s_1_108 s_1_109 s_1_110 s_1_114 s_1_118 s_1_120
    have e0 : (100 : Int32).toInt = 100 := rfl
    have e1 : (107 : Int32).toInt = 107 := rfl
    have e2 : (108 : Int32).toInt = 108 := rfl
    have e3 : (109 : Int32).toInt = 109 := rfl
    have e4 : (110 : Int32).toInt = 110 := rfl
    have e5 : (114 : Int32).toInt = 114 := rfl
    have e6 : (118 : Int32).toInt = 118 := rfl
    have e7 : (120 : Int32).toInt = 120 := rfl
    generalize (v).toInt = z at *
    obtain ⟨j, hj⟩ : ∃ j : Nat, z = 100 + (j : Int) := ⟨(z - 100).toNat, by omega⟩
    subst hj
    have hj : j < 21 := by omega
    have e : (100 + (j : Int) - 100).toNat = j := by omega
    rw [e]
    have g0 : j ≠ 0 := by omega
    have g1 : j ≠ 7 := by omega
    have g2 : j ≠ 8 := by omega
    have g3 : j ≠ 9 := by omega
    have g4 : j ≠ 10 := by omega
    have g5 : j ≠ 14 := by omega
    have g6 : j ≠ 18 := by omega
    have g7 : j ≠ 20 := by omega
    rcases (by decide : ∀ j : Fin 21, j.val = 0 ∨ j.val = 7 ∨ j.val = 8 ∨ j.val = 9 ∨ j.val = 10 ∨ j.val = 14 ∨ j.val = 18 ∨ j.val = 20 ∨ (#[103, 107, 107, 107, 107, 107, 107, 99, 105, 101, 99, 107, 107, 107, 99, 107, 107, 107, 103, 107, 101] : Array Int)[j.val]? = some 107) ⟨j, hj⟩ with h | h | h | h | h | h | h | h | h
    · exact absurd h g0
    · exact absurd h g1
    · exact absurd h g2
    · exact absurd h g3
    · exact absurd h g4
    · exact absurd h g5
    · exact absurd h g6
    · exact absurd h g7
    · exact h
  refine x_iconst (v := (-1)) C dX6_numbersOf_108 (by decide) ?_
  exact x_iret C hr hlocks rfl () (Eq.symm (by unfold f_X6_numbersOf_r; rw [if_neg s_1_100, if_neg s_1_107, if_neg s_1_108, if_neg s_1_109, if_neg s_1_110, if_neg s_1_114, if_neg s_1_118, if_neg s_1_120])) (gEq.rf _) dX6_numbersOf_109
theorem need_neg {v : Int32} (h : f_X1_numbersNeeded_r v < 0) : f_X1_numbersNeeded_r v = -1 := by
  by_cases e : f_X1_numbersNeeded_r v = -1
  · exact e
  · have h2 := ndN_ok e
    rw [h2.2] at h
    exact absurd (nI_pos' (n := ndN v) (by omega)) (Int32.not_le.mpr h)
theorem need_pos {v : Int32} (h : ¬ f_X1_numbersNeeded_r v < 0) : ¬ f_X1_numbersNeeded_r v = -1 := fun z => h (by rw [z]; decide)
theorem skip_idem (f : Nat → Int32) (L p : Nat) : skip f L (skip f L p) = skip f L p := by
  have key : ∀ (j p : Nat), L - p = j → skip f L (skip f L p) = skip f L p := by
    intro j
    induction j with
    | zero => intro p hp; rw [skip_end (p := p) (by omega), skip_end (by omega)]
    | succ j ih =>
      intro p hp
      by_cases e : f p = 32
      · rw [skip_sp (by omega) e]; exact ih (p + 1) (by omega)
      · rw [skip_ns e, skip_ns e]
  exact key _ p rfl
/-- the loop of parseCommand: i numbers read, p the place, nr the numbers' row, er the error or -1 -/
def pcI (f : Nat → Int32) (L cu nc : Nat) (n0 : Nat → Int32) (i p : Nat) (nr : Nat → Int32) (er : Int32) : Prop :=
  i ≤ ndN (atP f L cu) ∧ (∀ j, j < 3 * nc → nr j = n0 j) ∧ p ≤ 300 + 10 * i ∧ ((er = -1 ∧ rcP f L (atP f L cu) (ndN (atP f L cu) - i) i p = rcT f L cu ∧ p = npP f L (atP f L cu) (cu + 1) i ∧ ∀ k, k < i → nr (3 * nc + k) = nvP f L (atP f L cu) (cu + 1) k) ∨ ((rcT f L cu).1 = false ∧ er = nI (rcT f L cu).2))
theorem pcI_0 {f : Nat → Int32} {L cu nc : Nat} {n0 : Nat → Int32} (h : ¬ f_X1_numbersNeeded_r (atP f L cu) = -1) (hc : cu ≤ 200) : pcI f L cu nc n0 0 (cu + 1) n0 (-1) :=
  ⟨Nat.zero_le _, fun _ _ => rfl, by omega, Or.inl ⟨rfl, by unfold rcT; rw [if_neg h, Nat.sub_zero], rfl, fun k hk => absurd hk (Nat.not_lt_zero _)⟩⟩
theorem pcI_s {f : Nat → Int32} {L cu nc i p : Nat} {n0 nr : Nat → Int32} {er : Int32} (hL : L ≤ 120) (hI : pcI f L cu nc n0 i p nr er) (he : er = -1) (hp : rcP f L (atP f L cu) (ndN (atP f L cu) - i) i p = rcT f L cu) (hq : p = npP f L (atP f L cu) (cu + 1) i) (hN : ∀ k, k < i → nr (3 * nc + k) = nvP f L (atP f L cu) (cu + 1) k) (hlt : i < ndN (atP f L cu)) :
    pcI f L cu nc n0 (i + 1) (nE f L (skip f L p) (sgP (atP f L cu) i)) (upd nr (3 * nc + i) (nVal f L (skip f L p) (sgP (atP f L cu) i))) (if nOk f L (skip f L p) (sgP (atP f L cu) i) then (-1) else (nI (nE f L (skip f L p) (sgP (atP f L cu) i)))) := by
  obtain ⟨h1, h2, h3, _⟩ := hI
  have hq1 : skip f L p ≤ 300 + 10 * i := skip_b h3 (by omega)
  have hq2 := (nE_le f L (skip f L p) (sgP (atP f L cu) i)).2
  refine ⟨hlt, upd_low h2 (by omega), by omega, ?_⟩
  rw [show ndN (atP f L cu) - i = (ndN (atP f L cu) - (i + 1)) + 1 by omega, rcP_s] at hp
  by_cases e : nOk f L (skip f L p) (sgP (atP f L cu) i)
  · rw [if_pos e] at hp
    exact Or.inl ⟨if_pos e, hp, by rw [hq]; rfl, upd_ext hN (by rw [hq]; rfl)⟩
  · rw [if_neg e] at hp
    exact Or.inr ⟨by rw [← hp], by rw [← hp]; exact if_neg e⟩
theorem rcT_lt {f : Nat → Int32} {L cu : Nat} (hL : L ≤ 120) (hc : cu ≤ 200) : (rcT f L cu).2 < 2 ^ 31 := by
  have := rcT_b (f := f) (L := L) (cu := cu) (B := 300) (by omega) (by omega)
  omega
theorem pcI_ok {f : Nat → Int32} {L cu nc i p : Nat} {n0 nr : Nat → Int32} {er : Int32} (hL : L ≤ 120) (hc : cu ≤ 200) (hI : pcI f L cu nc n0 i p nr er) (he : ¬ 0 ≤ er) : er = -1 ∧ rcP f L (atP f L cu) (ndN (atP f L cu) - i) i p = rcT f L cu ∧ p = npP f L (atP f L cu) (cu + 1) i ∧ ∀ k, k < i → nr (3 * nc + k) = nvP f L (atP f L cu) (cu + 1) k := by
  rcases hI.2.2.2 with h | h
  · exact h
  · exact absurd (by rw [h.2]; exact nI_pos' (rcT_lt hL hc)) he
theorem pcI_er {f : Nat → Int32} {L cu nc i p : Nat} {n0 nr : Nat → Int32} {er : Int32} (hI : pcI f L cu nc n0 i p nr er) (he : 0 ≤ er) : (rcT f L cu).1 = false ∧ er = nI (rcT f L cu).2 := by
  rcases hI.2.2.2 with h | h
  · exact absurd he (by rw [h.1]; decide)
  · exact h
/-- what the reference's parseCommand leaves -/
def mcQ (y u : Nat → Nat → Int32) (L cu nc : Nat) : Prop := (∀ i, i < nc → u 5 i = y 5 i) ∧ (∀ j, j < 3 * nc → u 6 j = y 6 j) ∧ ((rcT (y 4) L cu).1 = true → u 7 4 = -1 ∧ u 7 3 = nI (rcT (y 4) L cu).2 ∧ u 7 5 = nI (nc + 1) ∧ u 5 nc = atP (y 4) L cu ∧ ∀ k, k < ndN (atP (y 4) L cu) → u 6 (3 * nc + k) = nvP (y 4) L (atP (y 4) L cu) (cu + 1) k) ∧ (¬ (rcT (y 4) L cu).1 = true → u 7 4 = nI (rcT (y 4) L cu).2)
theorem ix3 (c k : Nat) : (3 : Int32) * nI c + nI k = nI (3 * c + k) := by rw [show (3 : Int32) = nI 3 from rfl, pk_mul, nI_add]
theorem ix3' (c : Nat) : (3 : Int32) * nI c = nI (3 * c) := by rw [show (3 : Int32) = nI 3 from rfl, pk_mul]
theorem need_eq (v : Int32) : f_X6_numbersOf_r v = f_X1_numbersNeeded_r v := rfl
theorem ndN_lt3 {v : Int32} {k : Nat} (hk : k < ndN v) : k < 3 := by
  by_cases e : f_X1_numbersNeeded_r v = (-1)
  · exfalso; unfold ndN at hk; rw [e] at hk; exact absurd hk (Nat.not_lt_zero _)
  · have := (ndN_ok e).1; omega
set_option maxHeartbeats 4000000 in
set_option maxRecDepth 100000 in
theorem c_X6_parseCommand (l : Launch) (E : gE) (g : Nat → Nat) (y : Nat → Nat → Int32) (z : Int64) (L : Nat) (cu : Nat) (nc : Nat) (ht : y 7 2 = nI L) (hL2 : L ≤ 120) (ha : y 7 3 = nI cu) (hcu : cu ≤ 200) (hs : y 7 4 = -1) (hnc : y 7 5 = nI nc) (hn6 : nc < 60) (hsk : skip (y 4) L cu = cu) : CtV l E yX6_parseCommand prog_8_method_60_code 4 none 3 66 0 0 [.ref (g 0)] [((g 0), .inr (6, [.ref (g 1), .ref (g 2), .ref (g 3), .int (y 7 0), .ref (g 4), .int (y 7 1), .ref (g 5), .int (y 7 2), .int (y 7 3), .int (y 7 4), .int (y 7 5), .ref (g 6), .ref (g 7), .long z])), ((g 1), .inl (E.2.1, 47, .inl (y 0))), ((g 2), .inl (E.2.1, 47, .inl (y 1))), ((g 3), .inl (E.2.1, 235, .inl (y 2))), ((g 4), .inl (E.2.1, 8, .inl (y 3))), ((g 5), .inl (E.2.1, 120, .inl (y 4))), ((g 6), .inl (E.2.1, 60, .inl (y 5))), ((g 7), .inl (E.2.1, 180, .inl (y 6)))] (fun (u : Nat → Nat → Int32) => mcQ y u L cu nc) (fun u => [((g 0), .inr (6, [.ref (g 1), .ref (g 2), .ref (g 3), .int (y 7 0), .ref (g 4), .int (y 7 1), .ref (g 5), .int (y 7 2), .int (u 7 3), .int (u 7 4), .int (u 7 5), .ref (g 6), .ref (g 7), .long z])), ((g 1), .inl (E.2.1, 47, .inl (y 0))), ((g 2), .inl (E.2.1, 47, .inl (y 1))), ((g 3), .inl (E.2.1, 235, .inl (y 2))), ((g 4), .inl (E.2.1, 8, .inl (y 3))), ((g 5), .inl (E.2.1, 120, .inl (y 4))), ((g 6), .inl (E.2.1, 60, .inl (u 5))), ((g 7), .inl (E.2.1, 180, .inl (u 6)))]) := by
  refine CtV.start (by decide) (Nat.le_of_ble_eq_true rfl) ?_
  intro p_ e_ s_ m_ below_ meth_ c_ A_ C hr hlocks hnm
  refine Wd.cast (lv1 := [(0, .ref (g 0))]) rfl rfl rfl ?_
  refine Wd.cast (w1 := [((g 0), .inr (6, [.ref (g 1), .ref (g 2), .ref (g 3), .int (y 7 0), .ref (g 4), .int (y 7 1), .ref (g 5), .int (y 7 2), .int (nI cu), .int (-1), .int (nI nc), .ref (g 6), .ref (g 7), .long z])), ((g 1), .inl (E.2.1, 47, .inl (y 0))), ((g 2), .inl (E.2.1, 47, .inl (y 1))), ((g 3), .inl (E.2.1, 235, .inl (y 2))), ((g 4), .inl (E.2.1, 8, .inl (y 3))), ((g 5), .inl (E.2.1, 120, .inl (y 4))), ((g 6), .inl (E.2.1, 60, .inl (y 5))), ((g 7), .inl (E.2.1, 180, .inl (y 6)))]) (lv1 := [(0, .ref (g 0))]) (by rw [ha, hs, hnc]) rfl rfl ?_
  refine x_aload_n C dX6_parseCommand_0 0 rfl ?_
  refine x_callVI (wc := [((g 0), .inr (6, [.ref (g 1), .ref (g 2), .ref (g 3), .int (y 7 0), .ref (g 4), .int (y 7 1), .ref (g 5), .int (y 7 2), .int (nI cu), .int (-1), .int (nI nc), .ref (g 6), .ref (g 7), .long z])), ((g 1), .inl (E.2.1, 47, .inl (y 0))), ((g 2), .inl (E.2.1, 47, .inl (y 1))), ((g 3), .inl (E.2.1, 235, .inl (y 2))), ((g 4), .inl (E.2.1, 8, .inl (y 3))), ((g 5), .inl (E.2.1, 120, .inl (y 4))), ((g 6), .inl (E.2.1, 60, .inl (y 5))), ((g 7), .inl (E.2.1, 180, .inl (y 6)))]) (wr := []) (As := []) (rest := []) (ci := 6) (q0 := 0) C (c_X6_here l E g (rs (rs (rs y 7 3 (nI cu)) 7 4 (-1)) 7 5 (nI nc)) z L cu ht hL2 rfl (by omega)) (gWV C kw_ml_X6_144 kw_im_X6_here kw_sel_X6_here kw_ini_X6 kw_code_X6_here ga_X6_here ⟨Nat.le_of_ble_eq_true rfl, Nat.le_of_ble_eq_true rfl⟩) rfl rfl [0, 1, 2, 3, 4, 5, 6, 7] [] [0, 1, 2, 3, 4, 5, 6, 7] rfl rfl rfl rfl (by decide) (fun _ => [((g 0), .inr (6, [.ref (g 1), .ref (g 2), .ref (g 3), .int (y 7 0), .ref (g 4), .int (y 7 1), .ref (g 5), .int (y 7 2), .int (nI (skip (y 4) L cu)), .int (-1), .int (nI nc), .ref (g 6), .ref (g 7), .long z])), ((g 1), .inl (E.2.1, 47, .inl (y 0))), ((g 2), .inl (E.2.1, 47, .inl (y 1))), ((g 3), .inl (E.2.1, 235, .inl (y 2))), ((g 4), .inl (E.2.1, 8, .inl (y 3))), ((g 5), .inl (E.2.1, 120, .inl (y 4))), ((g 6), .inl (E.2.1, 60, .inl (y 5))), ((g 7), .inl (E.2.1, 180, .inl (y 6)))]) rfl (fun _ => rfl) rfl (Nat.le_of_ble_eq_true rfl) ⟨Nat.le_of_ble_eq_true rfl, Nat.le_of_ble_eq_true rfl⟩ rfl dX6_parseCommand_1 (fun r_1 _ e_2 => ?_)
  subst e_2
  refine Wd.cast (w1 := [((g 0), .inr (6, [.ref (g 1), .ref (g 2), .ref (g 3), .int (y 7 0), .ref (g 4), .int (y 7 1), .ref (g 5), .int (y 7 2), .int (nI (skip (y 4) L cu)), .int (-1), .int (nI nc), .ref (g 6), .ref (g 7), .long z])), ((g 1), .inl (E.2.1, 47, .inl (y 0))), ((g 2), .inl (E.2.1, 47, .inl (y 1))), ((g 3), .inl (E.2.1, 235, .inl (y 2))), ((g 4), .inl (E.2.1, 8, .inl (y 3))), ((g 5), .inl (E.2.1, 120, .inl (y 4))), ((g 6), .inl (E.2.1, 60, .inl (y 5))), ((g 7), .inl (E.2.1, 180, .inl (y 6)))]) (lv1 := [(0, .ref (g 0))]) (st1 := [.int (atP (y 4) L (skip (y 4) L cu))]) rfl rfl rfl ?_
  refine Wd.cast (w1 := [((g 0), .inr (6, [.ref (g 1), .ref (g 2), .ref (g 3), .int (y 7 0), .ref (g 4), .int (y 7 1), .ref (g 5), .int (y 7 2), .int (nI cu), .int (-1), .int (nI nc), .ref (g 6), .ref (g 7), .long z])), ((g 1), .inl (E.2.1, 47, .inl (y 0))), ((g 2), .inl (E.2.1, 47, .inl (y 1))), ((g 3), .inl (E.2.1, 235, .inl (y 2))), ((g 4), .inl (E.2.1, 8, .inl (y 3))), ((g 5), .inl (E.2.1, 120, .inl (y 4))), ((g 6), .inl (E.2.1, 60, .inl (y 5))), ((g 7), .inl (E.2.1, 180, .inl (y 6)))]) (lv1 := [(0, .ref (g 0))]) (st1 := [.int (atP (y 4) L cu)]) (by rw [hsk]) rfl (by rw [hsk]) ?_
  refine x_istore_n (lv1 := [(1, .int (atP (y 4) L cu)), (0, .ref (g 0))]) C dX6_parseCommand_4 (by decide) rfl ?_
  refine x_iload_n C dX6_parseCommand_5 0 rfl ?_
  refine x_callSI (wc := []) (wr := [((g 0), .inr (6, [.ref (g 1), .ref (g 2), .ref (g 3), .int (y 7 0), .ref (g 4), .int (y 7 1), .ref (g 5), .int (y 7 2), .int (nI cu), .int (-1), .int (nI nc), .ref (g 6), .ref (g 7), .long z])), ((g 1), .inl (E.2.1, 47, .inl (y 0))), ((g 2), .inl (E.2.1, 47, .inl (y 1))), ((g 3), .inl (E.2.1, 235, .inl (y 2))), ((g 4), .inl (E.2.1, 8, .inl (y 3))), ((g 5), .inl (E.2.1, 120, .inl (y 4))), ((g 6), .inl (E.2.1, 60, .inl (y 5))), ((g 7), .inl (E.2.1, 180, .inl (y 6)))]) (As := [.int (atP (y 4) L cu)]) (rest := []) C (c_X6_numbersOf l E (atP (y 4) L cu) ) (gWS C kw_ml_X6_155 kw_st_X6_numbersOf kw_ini_X6 kw_code_X6_numbersOf ga_X6_numbersOf ⟨Nat.le_of_ble_eq_true rfl, Nat.le_of_ble_eq_true rfl⟩) [] [0, 1, 2, 3, 4, 5, 6, 7] [0, 1, 2, 3, 4, 5, 6, 7] rfl rfl rfl rfl (by decide) (fun _ => [((g 0), .inr (6, [.ref (g 1), .ref (g 2), .ref (g 3), .int (y 7 0), .ref (g 4), .int (y 7 1), .ref (g 5), .int (y 7 2), .int (nI cu), .int (-1), .int (nI nc), .ref (g 6), .ref (g 7), .long z])), ((g 1), .inl (E.2.1, 47, .inl (y 0))), ((g 2), .inl (E.2.1, 47, .inl (y 1))), ((g 3), .inl (E.2.1, 235, .inl (y 2))), ((g 4), .inl (E.2.1, 8, .inl (y 3))), ((g 5), .inl (E.2.1, 120, .inl (y 4))), ((g 6), .inl (E.2.1, 60, .inl (y 5))), ((g 7), .inl (E.2.1, 180, .inl (y 6)))]) rfl (fun _ => rfl) rfl (Nat.le_of_ble_eq_true rfl) ⟨Nat.le_of_ble_eq_true rfl, Nat.le_of_ble_eq_true rfl⟩ rfl dX6_parseCommand_6 (fun r_3 _ e_4 => ?_)
  subst e_4
  refine Wd.cast (w1 := [((g 0), .inr (6, [.ref (g 1), .ref (g 2), .ref (g 3), .int (y 7 0), .ref (g 4), .int (y 7 1), .ref (g 5), .int (y 7 2), .int (nI cu), .int (-1), .int (nI nc), .ref (g 6), .ref (g 7), .long z])), ((g 1), .inl (E.2.1, 47, .inl (y 0))), ((g 2), .inl (E.2.1, 47, .inl (y 1))), ((g 3), .inl (E.2.1, 235, .inl (y 2))), ((g 4), .inl (E.2.1, 8, .inl (y 3))), ((g 5), .inl (E.2.1, 120, .inl (y 4))), ((g 6), .inl (E.2.1, 60, .inl (y 5))), ((g 7), .inl (E.2.1, 180, .inl (y 6)))]) (lv1 := [(1, .int (atP (y 4) L cu)), (0, .ref (g 0))]) (st1 := [.int (f_X1_numbersNeeded_r (atP (y 4) L cu))]) rfl rfl rfl ?_
  refine x_istore_n (lv1 := [(2, .int (f_X1_numbersNeeded_r (atP (y 4) L cu))), (1, .int (atP (y 4) L cu)), (0, .ref (g 0))]) C dX6_parseCommand_9 (by decide) rfl ?_
  refine x_aload_n C dX6_parseCommand_10 2 rfl ?_
  refine x_iload_n C dX6_parseCommand_11 0 rfl ?_
  refine x_if_lt (tgt := 19) C dX6_parseCommand_12 (by decide) (fun c_12 => ?_) (fun c_12 => ?_)
  · refine x_iconst (v := 0) C dX6_parseCommand_19 (by decide) ?_
    refine x_callVV (wc := [((g 0), .inr (6, [.ref (g 1), .ref (g 2), .ref (g 3), .int (y 7 0), .ref (g 4), .int (y 7 1), .ref (g 5), .int (y 7 2), .int (nI cu), .int (-1), .int (nI nc), .ref (g 6), .ref (g 7), .long z])), ((g 1), .inl (E.2.1, 47, .inl (y 0))), ((g 2), .inl (E.2.1, 47, .inl (y 1))), ((g 3), .inl (E.2.1, 235, .inl (y 2))), ((g 4), .inl (E.2.1, 8, .inl (y 3))), ((g 5), .inl (E.2.1, 120, .inl (y 4))), ((g 6), .inl (E.2.1, 60, .inl (y 5))), ((g 7), .inl (E.2.1, 180, .inl (y 6)))]) (wr := []) (As := [.int 0]) (rest := []) (ci := 6) (q0 := 0) C (c_X6_require l E g (rs (rs (rs y 7 3 (nI cu)) 7 4 (-1)) 7 5 (nI nc)) z 0 cu rfl rfl) (gWV C kw_ml_X6_151 kw_im_X6_require kw_sel_X6_require kw_ini_X6 kw_code_X6_require ga_X6_require ⟨Nat.le_of_ble_eq_true rfl, Nat.le_of_ble_eq_true rfl⟩) rfl rfl [0, 1, 2, 3, 4, 5, 6, 7] [] [0, 1, 2, 3, 4, 5, 6, 7] rfl rfl rfl rfl (by decide) (fun _ => [((g 0), .inr (6, [.ref (g 1), .ref (g 2), .ref (g 3), .int ((rqY (rs (rs (rs y 7 3 (nI cu)) 7 4 (-1)) 7 5 (nI nc)) cu 0) 7 0), .ref (g 4), .int ((rqY (rs (rs (rs y 7 3 (nI cu)) 7 4 (-1)) 7 5 (nI nc)) cu 0) 7 1), .ref (g 5), .int ((rqY (rs (rs (rs y 7 3 (nI cu)) 7 4 (-1)) 7 5 (nI nc)) cu 0) 7 2), .int ((rqY (rs (rs (rs y 7 3 (nI cu)) 7 4 (-1)) 7 5 (nI nc)) cu 0) 7 3), .int ((rqY (rs (rs (rs y 7 3 (nI cu)) 7 4 (-1)) 7 5 (nI nc)) cu 0) 7 4), .int ((rqY (rs (rs (rs y 7 3 (nI cu)) 7 4 (-1)) 7 5 (nI nc)) cu 0) 7 5), .ref (g 6), .ref (g 7), .long z])), ((g 1), .inl (E.2.1, 47, .inl ((rqY (rs (rs (rs y 7 3 (nI cu)) 7 4 (-1)) 7 5 (nI nc)) cu 0) 0))), ((g 2), .inl (E.2.1, 47, .inl ((rqY (rs (rs (rs y 7 3 (nI cu)) 7 4 (-1)) 7 5 (nI nc)) cu 0) 1))), ((g 3), .inl (E.2.1, 235, .inl ((rqY (rs (rs (rs y 7 3 (nI cu)) 7 4 (-1)) 7 5 (nI nc)) cu 0) 2))), ((g 4), .inl (E.2.1, 8, .inl ((rqY (rs (rs (rs y 7 3 (nI cu)) 7 4 (-1)) 7 5 (nI nc)) cu 0) 3))), ((g 5), .inl (E.2.1, 120, .inl ((rqY (rs (rs (rs y 7 3 (nI cu)) 7 4 (-1)) 7 5 (nI nc)) cu 0) 4))), ((g 6), .inl (E.2.1, 60, .inl ((rqY (rs (rs (rs y 7 3 (nI cu)) 7 4 (-1)) 7 5 (nI nc)) cu 0) 5))), ((g 7), .inl (E.2.1, 180, .inl ((rqY (rs (rs (rs y 7 3 (nI cu)) 7 4 (-1)) 7 5 (nI nc)) cu 0) 6)))]) rfl (fun _ => rfl) rfl (Nat.le_of_ble_eq_true rfl) ⟨Nat.le_of_ble_eq_true rfl, Nat.le_of_ble_eq_true rfl⟩ rfl dX6_parseCommand_20 (fun _ e_6 => ?_)
    refine Wd.cast (w1 := [((g 0), .inr (6, [.ref (g 1), .ref (g 2), .ref (g 3), .int (y 7 0), .ref (g 4), .int (y 7 1), .ref (g 5), .int (y 7 2), .int (nI cu), .int (nI cu), .int (nI nc), .ref (g 6), .ref (g 7), .long z])), ((g 1), .inl (E.2.1, 47, .inl (y 0))), ((g 2), .inl (E.2.1, 47, .inl (y 1))), ((g 3), .inl (E.2.1, 235, .inl (y 2))), ((g 4), .inl (E.2.1, 8, .inl (y 3))), ((g 5), .inl (E.2.1, 120, .inl (y 4))), ((g 6), .inl (E.2.1, 60, .inl (y 5))), ((g 7), .inl (E.2.1, 180, .inl (y 6)))]) (lv1 := [(2, .int (f_X1_numbersNeeded_r (atP (y 4) L cu))), (1, .int (atP (y 4) L cu)), (0, .ref (g 0))]) (st1 := []) rfl rfl rfl ?_
    have hm1 := need_neg c_12
    refine x_iconst (v := 0) C dX6_parseCommand_23 (by decide) ?_
    refine x_istore_n (lv1 := [(3, .int 0), (2, .int (f_X1_numbersNeeded_r (atP (y 4) L cu))), (1, .int (atP (y 4) L cu)), (0, .ref (g 0))]) C dX6_parseCommand_24 (by decide) rfl ?_
    refine x_iload_n C dX6_parseCommand_25 0 rfl ?_
    refine x_iload_n C dX6_parseCommand_26 1 rfl ?_
    refine x_icmp_ge (tgt := 87) C dX6_parseCommand_27 (by decide) (fun c_27 => ?_) (fun c_27 => absurd (by rw [hm1]; decide) c_27)
    refine x_aload_n C dX6_parseCommand_87 3 rfl ?_
    refine x_get (ref := "RomSearchBusModel") (v := .int (nI cu)) C inX6 0 9 rfl rfl (by decide) kw_fl_X6_141 rfl rfl dX6_parseCommand_88 ?_
    refine x_if_ge (tgt := 132) C dX6_parseCommand_91 (by decide) (fun c_91 => ?_) (fun c_91 => absurd (nI_pos' (by omega)) c_91)
    have hT : rcT (y 4) L cu = (false, cu) := by unfold rcT; rw [if_pos hm1]
    have hu : mcQ y (rs (rs (rs y 7 3 (nI cu)) 7 4 (nI cu)) 7 5 (nI nc)) L cu nc := ⟨fun _ _ => rfl, fun _ _ => rfl, fun z => absurd z (by rw [hT]; exact Bool.false_ne_true), fun _ => by rw [hT]; rfl⟩
    exact x_vret C hr hlocks (rs (rs (rs y 7 3 (nI cu)) 7 4 (nI cu)) 7 5 (nI nc)) hu (gEq.rf _) dX6_parseCommand_132
  · refine x_iconst (v := 1) C dX6_parseCommand_15 (by decide) ?_
    refine x_goto (tgt := 20) C dX6_parseCommand_16 (by decide) ?_
    refine x_callVV (wc := [((g 0), .inr (6, [.ref (g 1), .ref (g 2), .ref (g 3), .int (y 7 0), .ref (g 4), .int (y 7 1), .ref (g 5), .int (y 7 2), .int (nI cu), .int (-1), .int (nI nc), .ref (g 6), .ref (g 7), .long z])), ((g 1), .inl (E.2.1, 47, .inl (y 0))), ((g 2), .inl (E.2.1, 47, .inl (y 1))), ((g 3), .inl (E.2.1, 235, .inl (y 2))), ((g 4), .inl (E.2.1, 8, .inl (y 3))), ((g 5), .inl (E.2.1, 120, .inl (y 4))), ((g 6), .inl (E.2.1, 60, .inl (y 5))), ((g 7), .inl (E.2.1, 180, .inl (y 6)))]) (wr := []) (As := [.int 1]) (rest := []) (ci := 6) (q0 := 0) C (c_X6_require l E g (rs (rs (rs y 7 3 (nI cu)) 7 4 (-1)) 7 5 (nI nc)) z 1 cu rfl rfl) (gWV C kw_ml_X6_151 kw_im_X6_require kw_sel_X6_require kw_ini_X6 kw_code_X6_require ga_X6_require ⟨Nat.le_of_ble_eq_true rfl, Nat.le_of_ble_eq_true rfl⟩) rfl rfl [0, 1, 2, 3, 4, 5, 6, 7] [] [0, 1, 2, 3, 4, 5, 6, 7] rfl rfl rfl rfl (by decide) (fun _ => [((g 0), .inr (6, [.ref (g 1), .ref (g 2), .ref (g 3), .int ((rqY (rs (rs (rs y 7 3 (nI cu)) 7 4 (-1)) 7 5 (nI nc)) cu 1) 7 0), .ref (g 4), .int ((rqY (rs (rs (rs y 7 3 (nI cu)) 7 4 (-1)) 7 5 (nI nc)) cu 1) 7 1), .ref (g 5), .int ((rqY (rs (rs (rs y 7 3 (nI cu)) 7 4 (-1)) 7 5 (nI nc)) cu 1) 7 2), .int ((rqY (rs (rs (rs y 7 3 (nI cu)) 7 4 (-1)) 7 5 (nI nc)) cu 1) 7 3), .int ((rqY (rs (rs (rs y 7 3 (nI cu)) 7 4 (-1)) 7 5 (nI nc)) cu 1) 7 4), .int ((rqY (rs (rs (rs y 7 3 (nI cu)) 7 4 (-1)) 7 5 (nI nc)) cu 1) 7 5), .ref (g 6), .ref (g 7), .long z])), ((g 1), .inl (E.2.1, 47, .inl ((rqY (rs (rs (rs y 7 3 (nI cu)) 7 4 (-1)) 7 5 (nI nc)) cu 1) 0))), ((g 2), .inl (E.2.1, 47, .inl ((rqY (rs (rs (rs y 7 3 (nI cu)) 7 4 (-1)) 7 5 (nI nc)) cu 1) 1))), ((g 3), .inl (E.2.1, 235, .inl ((rqY (rs (rs (rs y 7 3 (nI cu)) 7 4 (-1)) 7 5 (nI nc)) cu 1) 2))), ((g 4), .inl (E.2.1, 8, .inl ((rqY (rs (rs (rs y 7 3 (nI cu)) 7 4 (-1)) 7 5 (nI nc)) cu 1) 3))), ((g 5), .inl (E.2.1, 120, .inl ((rqY (rs (rs (rs y 7 3 (nI cu)) 7 4 (-1)) 7 5 (nI nc)) cu 1) 4))), ((g 6), .inl (E.2.1, 60, .inl ((rqY (rs (rs (rs y 7 3 (nI cu)) 7 4 (-1)) 7 5 (nI nc)) cu 1) 5))), ((g 7), .inl (E.2.1, 180, .inl ((rqY (rs (rs (rs y 7 3 (nI cu)) 7 4 (-1)) 7 5 (nI nc)) cu 1) 6)))]) rfl (fun _ => rfl) rfl (Nat.le_of_ble_eq_true rfl) ⟨Nat.le_of_ble_eq_true rfl, Nat.le_of_ble_eq_true rfl⟩ rfl dX6_parseCommand_20 (fun _ e_8 => ?_)
    refine Wd.cast (w1 := [((g 0), .inr (6, [.ref (g 1), .ref (g 2), .ref (g 3), .int (y 7 0), .ref (g 4), .int (y 7 1), .ref (g 5), .int (y 7 2), .int (nI (cu + 1)), .int (-1), .int (nI nc), .ref (g 6), .ref (g 7), .long z])), ((g 1), .inl (E.2.1, 47, .inl (y 0))), ((g 2), .inl (E.2.1, 47, .inl (y 1))), ((g 3), .inl (E.2.1, 235, .inl (y 2))), ((g 4), .inl (E.2.1, 8, .inl (y 3))), ((g 5), .inl (E.2.1, 120, .inl (y 4))), ((g 6), .inl (E.2.1, 60, .inl (y 5))), ((g 7), .inl (E.2.1, 180, .inl (y 6)))]) (lv1 := [(2, .int (f_X1_numbersNeeded_r (atP (y 4) L cu))), (1, .int (atP (y 4) L cu)), (0, .ref (g 0))]) (st1 := []) rfl rfl rfl ?_
    have hne := need_pos c_12
    have hd := ndN_ok hne
    have hd3 := hd.1
    refine x_iconst (v := 0) C dX6_parseCommand_23 (by decide) ?_
    refine x_istore_n (lv1 := [(3, .int 0), (2, .int (f_X1_numbersNeeded_r (atP (y 4) L cu))), (1, .int (atP (y 4) L cu)), (0, .ref (g 0))]) C dX6_parseCommand_24 (by decide) rfl ?_
    refine Wd.locs (lv1 := [(0, .ref (g 0)), (1, .int (atP (y 4) L cu)), (2, .int (f_X1_numbersNeeded_r (atP (y 4) L cu))), (3, .int 0)]) [3, 2, 1, 0] rfl ?_
    refine Wd.cast (w1 := [((g 0), .inr (6, [.ref (g 1), .ref (g 2), .ref (g 3), .int (y 7 0), .ref (g 4), .int (y 7 1), .ref (g 5), .int (y 7 2), .int (nI (cu + 1)), .int (-1), .int (nI nc), .ref (g 6), .ref (g 7), .long z])), ((g 1), .inl (E.2.1, 47, .inl (y 0))), ((g 2), .inl (E.2.1, 47, .inl (y 1))), ((g 3), .inl (E.2.1, 235, .inl (y 2))), ((g 4), .inl (E.2.1, 8, .inl (y 3))), ((g 5), .inl (E.2.1, 120, .inl (y 4))), ((g 6), .inl (E.2.1, 60, .inl (y 5))), ((g 7), .inl (E.2.1, 180, .inl (y 6)))]) (lv1 := [(0, .ref (g 0)), (1, .int (atP (y 4) L cu)), (2, .int (f_X1_numbersNeeded_r (atP (y 4) L cu))), (3, .int (nI 0))]) rfl rfl rfl ?_
    refine Wd.wh4 (W1 := fun (i : Nat) (p : Nat) (nr : Nat → Int32) (er : Int32) => [((g 0), .inr (6, [.ref (g 1), .ref (g 2), .ref (g 3), .int (y 7 0), .ref (g 4), .int (y 7 1), .ref (g 5), .int (y 7 2), .int (nI p), .int er, .int (nI nc), .ref (g 6), .ref (g 7), .long z])), ((g 1), .inl (E.2.1, 47, .inl (y 0))), ((g 2), .inl (E.2.1, 47, .inl (y 1))), ((g 3), .inl (E.2.1, 235, .inl (y 2))), ((g 4), .inl (E.2.1, 8, .inl (y 3))), ((g 5), .inl (E.2.1, 120, .inl (y 4))), ((g 6), .inl (E.2.1, 60, .inl (y 5))), ((g 7), .inl (E.2.1, 180, .inl nr))]) (LV := fun (i : Nat) (p : Nat) (nr : Nat → Int32) (er : Int32) => [(0, .ref (g 0)), (1, .int (atP (y 4) L cu)), (2, .int (f_X1_numbersNeeded_r (atP (y 4) L cu))), (3, .int (nI i))]) (fun (i : Nat) (p : Nat) (nr : Nat → Int32) (er : Int32) => pcI (y 4) L cu nc (y 6) i p nr er) (fun (i : Nat) (p : Nat) (nr : Nat → Int32) (er : Int32) => (ndN (atP (y 4) L cu)) - i) 0 (cu + 1) (y 6) (-1) (pcI_0 hne hcu) (fun i p nr er hI ih => ?_)
    refine Wd.cast (w1 := [((g 0), .inr (6, [.ref (g 1), .ref (g 2), .ref (g 3), .int (y 7 0), .ref (g 4), .int (y 7 1), .ref (g 5), .int (y 7 2), .int (nI p), .int er, .int (nI nc), .ref (g 6), .ref (g 7), .long z])), ((g 1), .inl (E.2.1, 47, .inl (y 0))), ((g 2), .inl (E.2.1, 47, .inl (y 1))), ((g 3), .inl (E.2.1, 235, .inl (y 2))), ((g 4), .inl (E.2.1, 8, .inl (y 3))), ((g 5), .inl (E.2.1, 120, .inl (y 4))), ((g 6), .inl (E.2.1, 60, .inl (y 5))), ((g 7), .inl (E.2.1, 180, .inl nr))]) (lv1 := [(0, .ref (g 0)), (1, .int (atP (y 4) L cu)), (2, .int (f_X1_numbersNeeded_r (atP (y 4) L cu))), (3, .int (nI i))]) rfl rfl rfl ?_
    have hpb := hI.2.2.1
    have hib := hI.1
    refine x_iload_n C dX6_parseCommand_25 3 rfl ?_
    refine x_iload_n C dX6_parseCommand_26 2 rfl ?_
    refine x_icmp_ge (tgt := 87) C dX6_parseCommand_27 (by decide) (fun c_27 => ?_) (fun c_27 => ?_)
    · refine x_aload_n C dX6_parseCommand_87 0 rfl ?_
      refine x_get (ref := "RomSearchBusModel") (v := .int er) C inX6 0 9 rfl rfl (by decide) kw_fl_X6_141 rfl rfl dX6_parseCommand_88 ?_
      refine x_if_ge (tgt := 132) C dX6_parseCommand_91 (by decide) (fun c_91 => ?_) (fun c_91 => ?_)
      · have hT := pcI_er hI c_91
        have hu : mcQ y (rs (rs (rs (va_up y 6 nr) 7 3 (nI p)) 7 4 er) 7 5 (nI nc)) L cu nc := ⟨fun _ _ => rfl, hI.2.1, fun z => absurd z (by rw [hT.1]; exact Bool.false_ne_true), fun _ => hT.2⟩
        exact x_vret C hr hlocks (rs (rs (rs (va_up y 6 nr) 7 3 (nI p)) 7 4 er) 7 5 (nI nc)) hu (gEq.rf _) dX6_parseCommand_132
      · have hge : (ndN (atP (y 4) L cu)) ≤ i := nI_geN hd.2 rfl (by omega) (by omega) c_27
        have hnd : (ndN (atP (y 4) L cu)) = i := by have z := hI.1; omega
        obtain ⟨her, hp1, hp2, hN⟩ := pcI_ok hL2 hcu hI c_91
        rw [show (ndN (atP (y 4) L cu)) - i = 0 by omega, rcP_0] at hp1
        have hq3 : skip (y 4) L p ≤ 300 + 10 * i := skip_b hI.2.2.1 (by omega)
        refine x_aload_n C dX6_parseCommand_94 0 rfl ?_
        refine x_get (ref := "RomSearchBusModel") (v := .ref (g 6)) C inX6 0 11 rfl rfl (by decide) kw_fl_X6_25 rfl rfl dX6_parseCommand_95 ?_
        refine x_aload_n C dX6_parseCommand_98 0 rfl ?_
        refine x_get (ref := "RomSearchBusModel") (v := .int (nI nc)) C inX6 0 10 rfl rfl (by decide) kw_fl_X6_158 rfl rfl dX6_parseCommand_99 ?_
        refine x_iload_n C dX6_parseCommand_102 1 rfl ?_
        refine x_iastN (K := nc) C 6 rfl rfl (by omega) (by decide) [((g 0), .inr (6, [.ref (g 1), .ref (g 2), .ref (g 3), .int (y 7 0), .ref (g 4), .int (y 7 1), .ref (g 5), .int (y 7 2), .int (nI p), .int er, .int (nI nc), .ref (g 6), .ref (g 7), .long z])), ((g 1), .inl (E.2.1, 47, .inl (y 0))), ((g 2), .inl (E.2.1, 47, .inl (y 1))), ((g 3), .inl (E.2.1, 235, .inl (y 2))), ((g 4), .inl (E.2.1, 8, .inl (y 3))), ((g 5), .inl (E.2.1, 120, .inl (y 4))), ((g 6), .inl (E.2.1, 60, .inl (upd (y 5) nc (atP (y 4) L cu)))), ((g 7), .inl (E.2.1, 180, .inl nr))] rfl dX6_parseCommand_103 ?_
        refine x_aload_n C dX6_parseCommand_104 0 rfl ?_
        refine x_dup C dX6_parseCommand_105 rfl ?_
        refine x_get (ref := "RomSearchBusModel") (v := .int (nI nc)) C inX6 0 10 rfl rfl (by decide) kw_fl_X6_158 rfl rfl dX6_parseCommand_106 ?_
        refine x_iconst (v := 1) C dX6_parseCommand_109 (by decide) ?_
        refine x_iadd C dX6_parseCommand_110 ?_
        refine Wd.cast (w1 := [((g 0), .inr (6, [.ref (g 1), .ref (g 2), .ref (g 3), .int (y 7 0), .ref (g 4), .int (y 7 1), .ref (g 5), .int (y 7 2), .int (nI p), .int er, .int (nI nc), .ref (g 6), .ref (g 7), .long z])), ((g 1), .inl (E.2.1, 47, .inl (y 0))), ((g 2), .inl (E.2.1, 47, .inl (y 1))), ((g 3), .inl (E.2.1, 235, .inl (y 2))), ((g 4), .inl (E.2.1, 8, .inl (y 3))), ((g 5), .inl (E.2.1, 120, .inl (y 4))), ((g 6), .inl (E.2.1, 60, .inl (upd (y 5) nc (atP (y 4) L cu)))), ((g 7), .inl (E.2.1, 180, .inl nr))]) (lv1 := [(0, .ref (g 0)), (1, .int (atP (y 4) L cu)), (2, .int (f_X1_numbersNeeded_r (atP (y 4) L cu))), (3, .int (nI i))]) (st1 := [.int (nI (nc + 1)), .ref (g 0)]) rfl rfl (by rw [nI_1]) ?_
        refine x_put (ref := "RomSearchBusModel") C inX6 tyX6 tyX6_ok nmX6 0 10 rfl rfl (by decide) kw_fl_X6_158 rfl rfl rfl rfl (Nat.le_of_ble_eq_true rfl) [((g 0), .inr (6, [.ref (g 1), .ref (g 2), .ref (g 3), .int (y 7 0), .ref (g 4), .int (y 7 1), .ref (g 5), .int (y 7 2), .int (nI p), .int er, .int (nI (nc + 1)), .ref (g 6), .ref (g 7), .long z])), ((g 1), .inl (E.2.1, 47, .inl (y 0))), ((g 2), .inl (E.2.1, 47, .inl (y 1))), ((g 3), .inl (E.2.1, 235, .inl (y 2))), ((g 4), .inl (E.2.1, 8, .inl (y 3))), ((g 5), .inl (E.2.1, 120, .inl (y 4))), ((g 6), .inl (E.2.1, 60, .inl (upd (y 5) nc (atP (y 4) L cu)))), ((g 7), .inl (E.2.1, 180, .inl nr))] rfl dX6_parseCommand_111 ?_
        refine x_aload_n C dX6_parseCommand_114 0 rfl ?_
        refine x_aload_n C dX6_parseCommand_115 0 rfl ?_
        refine x_callVI (wc := [((g 0), .inr (6, [.ref (g 1), .ref (g 2), .ref (g 3), .int (y 7 0), .ref (g 4), .int (y 7 1), .ref (g 5), .int (y 7 2), .int (nI p), .int er, .int (nI (nc + 1)), .ref (g 6), .ref (g 7), .long z])), ((g 1), .inl (E.2.1, 47, .inl (y 0))), ((g 2), .inl (E.2.1, 47, .inl (y 1))), ((g 3), .inl (E.2.1, 235, .inl (y 2))), ((g 4), .inl (E.2.1, 8, .inl (y 3))), ((g 5), .inl (E.2.1, 120, .inl (y 4))), ((g 6), .inl (E.2.1, 60, .inl (upd (y 5) nc (atP (y 4) L cu)))), ((g 7), .inl (E.2.1, 180, .inl nr))]) (wr := []) (As := []) (rest := [.ref (g 0)]) (ci := 6) (q0 := 0) C (c_X6_here l E g (rs (rs (rs (rs (va_up y 6 nr) 7 3 (nI p)) 7 4 er) 5 nc (atP (y 4) L cu)) 7 5 (nI (nc + 1))) z L p ht hL2 rfl (by omega)) (gWV C kw_ml_X6_144 kw_im_X6_here kw_sel_X6_here kw_ini_X6 kw_code_X6_here ga_X6_here ⟨Nat.le_of_ble_eq_true rfl, Nat.le_of_ble_eq_true rfl⟩) rfl rfl [0, 1, 2, 3, 4, 5, 6, 7] [] [0, 1, 2, 3, 4, 5, 6, 7] rfl rfl rfl rfl (by decide) (fun _ => [((g 0), .inr (6, [.ref (g 1), .ref (g 2), .ref (g 3), .int (y 7 0), .ref (g 4), .int (y 7 1), .ref (g 5), .int (y 7 2), .int (nI (skip (y 4) L p)), .int er, .int (nI (nc + 1)), .ref (g 6), .ref (g 7), .long z])), ((g 1), .inl (E.2.1, 47, .inl (y 0))), ((g 2), .inl (E.2.1, 47, .inl (y 1))), ((g 3), .inl (E.2.1, 235, .inl (y 2))), ((g 4), .inl (E.2.1, 8, .inl (y 3))), ((g 5), .inl (E.2.1, 120, .inl (y 4))), ((g 6), .inl (E.2.1, 60, .inl (upd (y 5) nc (atP (y 4) L cu)))), ((g 7), .inl (E.2.1, 180, .inl nr))]) rfl (fun _ => rfl) rfl (Nat.le_of_ble_eq_true rfl) ⟨Nat.le_of_ble_eq_true rfl, Nat.le_of_ble_eq_true rfl⟩ rfl dX6_parseCommand_116 (fun r_9 _ e_10 => ?_)
        subst e_10
        refine Wd.cast (w1 := [((g 0), .inr (6, [.ref (g 1), .ref (g 2), .ref (g 3), .int (y 7 0), .ref (g 4), .int (y 7 1), .ref (g 5), .int (y 7 2), .int (nI (skip (y 4) L p)), .int er, .int (nI (nc + 1)), .ref (g 6), .ref (g 7), .long z])), ((g 1), .inl (E.2.1, 47, .inl (y 0))), ((g 2), .inl (E.2.1, 47, .inl (y 1))), ((g 3), .inl (E.2.1, 235, .inl (y 2))), ((g 4), .inl (E.2.1, 8, .inl (y 3))), ((g 5), .inl (E.2.1, 120, .inl (y 4))), ((g 6), .inl (E.2.1, 60, .inl (upd (y 5) nc (atP (y 4) L cu)))), ((g 7), .inl (E.2.1, 180, .inl nr))]) (lv1 := [(0, .ref (g 0)), (1, .int (atP (y 4) L cu)), (2, .int (f_X1_numbersNeeded_r (atP (y 4) L cu))), (3, .int (nI i))]) (st1 := [.int (atP (y 4) L (skip (y 4) L p)), .ref (g 0)]) rfl rfl rfl ?_
        refine x_bipush (v := 59) C dX6_parseCommand_119 (by decide) ?_
        refine x_icmp_ne (tgt := 128) C dX6_parseCommand_121 (by decide) (fun c_121 => ?_) (fun c_121 => ?_)
        · refine x_iconst (v := 0) C dX6_parseCommand_128 (by decide) ?_
          refine x_callVV (wc := [((g 0), .inr (6, [.ref (g 1), .ref (g 2), .ref (g 3), .int (y 7 0), .ref (g 4), .int (y 7 1), .ref (g 5), .int (y 7 2), .int (nI (skip (y 4) L p)), .int er, .int (nI (nc + 1)), .ref (g 6), .ref (g 7), .long z])), ((g 1), .inl (E.2.1, 47, .inl (y 0))), ((g 2), .inl (E.2.1, 47, .inl (y 1))), ((g 3), .inl (E.2.1, 235, .inl (y 2))), ((g 4), .inl (E.2.1, 8, .inl (y 3))), ((g 5), .inl (E.2.1, 120, .inl (y 4))), ((g 6), .inl (E.2.1, 60, .inl (upd (y 5) nc (atP (y 4) L cu)))), ((g 7), .inl (E.2.1, 180, .inl nr))]) (wr := []) (As := [.int 0]) (rest := []) (ci := 6) (q0 := 0) C (c_X6_require l E g (rs (rs (rs (rs (va_up y 6 nr) 7 4 er) 5 nc (atP (y 4) L cu)) 7 5 (nI (nc + 1))) 7 3 (nI (skip (y 4) L p))) z 0 (skip (y 4) L p) her rfl) (gWV C kw_ml_X6_151 kw_im_X6_require kw_sel_X6_require kw_ini_X6 kw_code_X6_require ga_X6_require ⟨Nat.le_of_ble_eq_true rfl, Nat.le_of_ble_eq_true rfl⟩) rfl rfl [0, 1, 2, 3, 4, 5, 6, 7] [] [0, 1, 2, 3, 4, 5, 6, 7] rfl rfl rfl rfl (by decide) (fun _ => [((g 0), .inr (6, [.ref (g 1), .ref (g 2), .ref (g 3), .int ((rqY (rs (rs (rs (rs (va_up y 6 nr) 7 4 er) 5 nc (atP (y 4) L cu)) 7 5 (nI (nc + 1))) 7 3 (nI (skip (y 4) L p))) (skip (y 4) L p) 0) 7 0), .ref (g 4), .int ((rqY (rs (rs (rs (rs (va_up y 6 nr) 7 4 er) 5 nc (atP (y 4) L cu)) 7 5 (nI (nc + 1))) 7 3 (nI (skip (y 4) L p))) (skip (y 4) L p) 0) 7 1), .ref (g 5), .int ((rqY (rs (rs (rs (rs (va_up y 6 nr) 7 4 er) 5 nc (atP (y 4) L cu)) 7 5 (nI (nc + 1))) 7 3 (nI (skip (y 4) L p))) (skip (y 4) L p) 0) 7 2), .int ((rqY (rs (rs (rs (rs (va_up y 6 nr) 7 4 er) 5 nc (atP (y 4) L cu)) 7 5 (nI (nc + 1))) 7 3 (nI (skip (y 4) L p))) (skip (y 4) L p) 0) 7 3), .int ((rqY (rs (rs (rs (rs (va_up y 6 nr) 7 4 er) 5 nc (atP (y 4) L cu)) 7 5 (nI (nc + 1))) 7 3 (nI (skip (y 4) L p))) (skip (y 4) L p) 0) 7 4), .int ((rqY (rs (rs (rs (rs (va_up y 6 nr) 7 4 er) 5 nc (atP (y 4) L cu)) 7 5 (nI (nc + 1))) 7 3 (nI (skip (y 4) L p))) (skip (y 4) L p) 0) 7 5), .ref (g 6), .ref (g 7), .long z])), ((g 1), .inl (E.2.1, 47, .inl ((rqY (rs (rs (rs (rs (va_up y 6 nr) 7 4 er) 5 nc (atP (y 4) L cu)) 7 5 (nI (nc + 1))) 7 3 (nI (skip (y 4) L p))) (skip (y 4) L p) 0) 0))), ((g 2), .inl (E.2.1, 47, .inl ((rqY (rs (rs (rs (rs (va_up y 6 nr) 7 4 er) 5 nc (atP (y 4) L cu)) 7 5 (nI (nc + 1))) 7 3 (nI (skip (y 4) L p))) (skip (y 4) L p) 0) 1))), ((g 3), .inl (E.2.1, 235, .inl ((rqY (rs (rs (rs (rs (va_up y 6 nr) 7 4 er) 5 nc (atP (y 4) L cu)) 7 5 (nI (nc + 1))) 7 3 (nI (skip (y 4) L p))) (skip (y 4) L p) 0) 2))), ((g 4), .inl (E.2.1, 8, .inl ((rqY (rs (rs (rs (rs (va_up y 6 nr) 7 4 er) 5 nc (atP (y 4) L cu)) 7 5 (nI (nc + 1))) 7 3 (nI (skip (y 4) L p))) (skip (y 4) L p) 0) 3))), ((g 5), .inl (E.2.1, 120, .inl ((rqY (rs (rs (rs (rs (va_up y 6 nr) 7 4 er) 5 nc (atP (y 4) L cu)) 7 5 (nI (nc + 1))) 7 3 (nI (skip (y 4) L p))) (skip (y 4) L p) 0) 4))), ((g 6), .inl (E.2.1, 60, .inl ((rqY (rs (rs (rs (rs (va_up y 6 nr) 7 4 er) 5 nc (atP (y 4) L cu)) 7 5 (nI (nc + 1))) 7 3 (nI (skip (y 4) L p))) (skip (y 4) L p) 0) 5))), ((g 7), .inl (E.2.1, 180, .inl ((rqY (rs (rs (rs (rs (va_up y 6 nr) 7 4 er) 5 nc (atP (y 4) L cu)) 7 5 (nI (nc + 1))) 7 3 (nI (skip (y 4) L p))) (skip (y 4) L p) 0) 6)))]) rfl (fun _ => rfl) rfl (Nat.le_of_ble_eq_true rfl) ⟨Nat.le_of_ble_eq_true rfl, Nat.le_of_ble_eq_true rfl⟩ rfl dX6_parseCommand_129 (fun _ e_12 => ?_)
          refine Wd.cast (w1 := [((g 0), .inr (6, [.ref (g 1), .ref (g 2), .ref (g 3), .int (y 7 0), .ref (g 4), .int (y 7 1), .ref (g 5), .int (y 7 2), .int (nI (skip (y 4) L p)), .int (nI (skip (y 4) L p)), .int (nI (nc + 1)), .ref (g 6), .ref (g 7), .long z])), ((g 1), .inl (E.2.1, 47, .inl (y 0))), ((g 2), .inl (E.2.1, 47, .inl (y 1))), ((g 3), .inl (E.2.1, 235, .inl (y 2))), ((g 4), .inl (E.2.1, 8, .inl (y 3))), ((g 5), .inl (E.2.1, 120, .inl (y 4))), ((g 6), .inl (E.2.1, 60, .inl (upd (y 5) nc (atP (y 4) L cu)))), ((g 7), .inl (E.2.1, 180, .inl nr))]) (lv1 := [(0, .ref (g 0)), (1, .int (atP (y 4) L cu)), (2, .int (f_X1_numbersNeeded_r (atP (y 4) L cu))), (3, .int (nI i))]) (st1 := []) rfl rfl rfl ?_
          rw [if_neg c_121] at hp1
          have hu : mcQ y (rs (rs (rs (rs (va_up y 6 nr) 5 nc (atP (y 4) L cu)) 7 5 (nI (nc + 1))) 7 3 (nI (skip (y 4) L p))) 7 4 (nI (skip (y 4) L p))) L cu nc := ⟨fun j hj => (by show (if j = nc then _ else _) = _; rw [if_neg (by omega)]; rfl), hI.2.1, fun z => absurd z (by rw [← hp1]; exact Bool.false_ne_true), fun _ => by rw [← hp1]; rfl⟩
          exact x_vret C hr hlocks (rs (rs (rs (rs (va_up y 6 nr) 5 nc (atP (y 4) L cu)) 7 5 (nI (nc + 1))) 7 3 (nI (skip (y 4) L p))) 7 4 (nI (skip (y 4) L p))) hu (gEq.rf _) dX6_parseCommand_132
        · refine x_iconst (v := 1) C dX6_parseCommand_124 (by decide) ?_
          refine x_goto (tgt := 129) C dX6_parseCommand_125 (by decide) ?_
          refine x_callVV (wc := [((g 0), .inr (6, [.ref (g 1), .ref (g 2), .ref (g 3), .int (y 7 0), .ref (g 4), .int (y 7 1), .ref (g 5), .int (y 7 2), .int (nI (skip (y 4) L p)), .int er, .int (nI (nc + 1)), .ref (g 6), .ref (g 7), .long z])), ((g 1), .inl (E.2.1, 47, .inl (y 0))), ((g 2), .inl (E.2.1, 47, .inl (y 1))), ((g 3), .inl (E.2.1, 235, .inl (y 2))), ((g 4), .inl (E.2.1, 8, .inl (y 3))), ((g 5), .inl (E.2.1, 120, .inl (y 4))), ((g 6), .inl (E.2.1, 60, .inl (upd (y 5) nc (atP (y 4) L cu)))), ((g 7), .inl (E.2.1, 180, .inl nr))]) (wr := []) (As := [.int 1]) (rest := []) (ci := 6) (q0 := 0) C (c_X6_require l E g (rs (rs (rs (rs (va_up y 6 nr) 7 4 er) 5 nc (atP (y 4) L cu)) 7 5 (nI (nc + 1))) 7 3 (nI (skip (y 4) L p))) z 1 (skip (y 4) L p) her rfl) (gWV C kw_ml_X6_151 kw_im_X6_require kw_sel_X6_require kw_ini_X6 kw_code_X6_require ga_X6_require ⟨Nat.le_of_ble_eq_true rfl, Nat.le_of_ble_eq_true rfl⟩) rfl rfl [0, 1, 2, 3, 4, 5, 6, 7] [] [0, 1, 2, 3, 4, 5, 6, 7] rfl rfl rfl rfl (by decide) (fun _ => [((g 0), .inr (6, [.ref (g 1), .ref (g 2), .ref (g 3), .int ((rqY (rs (rs (rs (rs (va_up y 6 nr) 7 4 er) 5 nc (atP (y 4) L cu)) 7 5 (nI (nc + 1))) 7 3 (nI (skip (y 4) L p))) (skip (y 4) L p) 1) 7 0), .ref (g 4), .int ((rqY (rs (rs (rs (rs (va_up y 6 nr) 7 4 er) 5 nc (atP (y 4) L cu)) 7 5 (nI (nc + 1))) 7 3 (nI (skip (y 4) L p))) (skip (y 4) L p) 1) 7 1), .ref (g 5), .int ((rqY (rs (rs (rs (rs (va_up y 6 nr) 7 4 er) 5 nc (atP (y 4) L cu)) 7 5 (nI (nc + 1))) 7 3 (nI (skip (y 4) L p))) (skip (y 4) L p) 1) 7 2), .int ((rqY (rs (rs (rs (rs (va_up y 6 nr) 7 4 er) 5 nc (atP (y 4) L cu)) 7 5 (nI (nc + 1))) 7 3 (nI (skip (y 4) L p))) (skip (y 4) L p) 1) 7 3), .int ((rqY (rs (rs (rs (rs (va_up y 6 nr) 7 4 er) 5 nc (atP (y 4) L cu)) 7 5 (nI (nc + 1))) 7 3 (nI (skip (y 4) L p))) (skip (y 4) L p) 1) 7 4), .int ((rqY (rs (rs (rs (rs (va_up y 6 nr) 7 4 er) 5 nc (atP (y 4) L cu)) 7 5 (nI (nc + 1))) 7 3 (nI (skip (y 4) L p))) (skip (y 4) L p) 1) 7 5), .ref (g 6), .ref (g 7), .long z])), ((g 1), .inl (E.2.1, 47, .inl ((rqY (rs (rs (rs (rs (va_up y 6 nr) 7 4 er) 5 nc (atP (y 4) L cu)) 7 5 (nI (nc + 1))) 7 3 (nI (skip (y 4) L p))) (skip (y 4) L p) 1) 0))), ((g 2), .inl (E.2.1, 47, .inl ((rqY (rs (rs (rs (rs (va_up y 6 nr) 7 4 er) 5 nc (atP (y 4) L cu)) 7 5 (nI (nc + 1))) 7 3 (nI (skip (y 4) L p))) (skip (y 4) L p) 1) 1))), ((g 3), .inl (E.2.1, 235, .inl ((rqY (rs (rs (rs (rs (va_up y 6 nr) 7 4 er) 5 nc (atP (y 4) L cu)) 7 5 (nI (nc + 1))) 7 3 (nI (skip (y 4) L p))) (skip (y 4) L p) 1) 2))), ((g 4), .inl (E.2.1, 8, .inl ((rqY (rs (rs (rs (rs (va_up y 6 nr) 7 4 er) 5 nc (atP (y 4) L cu)) 7 5 (nI (nc + 1))) 7 3 (nI (skip (y 4) L p))) (skip (y 4) L p) 1) 3))), ((g 5), .inl (E.2.1, 120, .inl ((rqY (rs (rs (rs (rs (va_up y 6 nr) 7 4 er) 5 nc (atP (y 4) L cu)) 7 5 (nI (nc + 1))) 7 3 (nI (skip (y 4) L p))) (skip (y 4) L p) 1) 4))), ((g 6), .inl (E.2.1, 60, .inl ((rqY (rs (rs (rs (rs (va_up y 6 nr) 7 4 er) 5 nc (atP (y 4) L cu)) 7 5 (nI (nc + 1))) 7 3 (nI (skip (y 4) L p))) (skip (y 4) L p) 1) 5))), ((g 7), .inl (E.2.1, 180, .inl ((rqY (rs (rs (rs (rs (va_up y 6 nr) 7 4 er) 5 nc (atP (y 4) L cu)) 7 5 (nI (nc + 1))) 7 3 (nI (skip (y 4) L p))) (skip (y 4) L p) 1) 6)))]) rfl (fun _ => rfl) rfl (Nat.le_of_ble_eq_true rfl) ⟨Nat.le_of_ble_eq_true rfl, Nat.le_of_ble_eq_true rfl⟩ rfl dX6_parseCommand_129 (fun _ e_14 => ?_)
          refine Wd.cast (w1 := [((g 0), .inr (6, [.ref (g 1), .ref (g 2), .ref (g 3), .int (y 7 0), .ref (g 4), .int (y 7 1), .ref (g 5), .int (y 7 2), .int (nI (skip (y 4) L p + 1)), .int er, .int (nI (nc + 1)), .ref (g 6), .ref (g 7), .long z])), ((g 1), .inl (E.2.1, 47, .inl (y 0))), ((g 2), .inl (E.2.1, 47, .inl (y 1))), ((g 3), .inl (E.2.1, 235, .inl (y 2))), ((g 4), .inl (E.2.1, 8, .inl (y 3))), ((g 5), .inl (E.2.1, 120, .inl (y 4))), ((g 6), .inl (E.2.1, 60, .inl (upd (y 5) nc (atP (y 4) L cu)))), ((g 7), .inl (E.2.1, 180, .inl nr))]) (lv1 := [(0, .ref (g 0)), (1, .int (atP (y 4) L cu)), (2, .int (f_X1_numbersNeeded_r (atP (y 4) L cu))), (3, .int (nI i))]) (st1 := []) rfl rfl rfl ?_
          rw [if_pos c_121] at hp1
          have hu : mcQ y (rs (rs (rs (rs (va_up y 6 nr) 5 nc (atP (y 4) L cu)) 7 5 (nI (nc + 1))) 7 3 (nI (skip (y 4) L p + 1))) 7 4 er) L cu nc := ⟨fun j hj => (by show (if j = nc then _ else _) = _; rw [if_neg (by omega)]; rfl), hI.2.1, fun _ => ⟨her, by rw [← hp1]; rfl, rfl, (by show (if nc = nc then _ else _) = _; rw [if_pos rfl]), fun k hk => hN k (by omega)⟩, fun z => absurd (by rw [← hp1]) z⟩
          exact x_vret C hr hlocks (rs (rs (rs (rs (va_up y 6 nr) 5 nc (atP (y 4) L cu)) 7 5 (nI (nc + 1))) 7 3 (nI (skip (y 4) L p + 1))) 7 4 er) hu (gEq.rf _) dX6_parseCommand_132
    · have hlt : i < (ndN (atP (y 4) L cu)) := nI_lt60 (by rw [← hd.2]; exact c_27) hI.1 (by omega)
      refine x_aload_n C dX6_parseCommand_30 0 rfl ?_
      refine x_get (ref := "RomSearchBusModel") (v := .int er) C inX6 0 9 rfl rfl (by decide) kw_fl_X6_141 rfl rfl dX6_parseCommand_31 ?_
      refine x_if_ge (tgt := 87) C dX6_parseCommand_34 (by decide) (fun c_34 => ?_) (fun c_34 => ?_)
      · refine x_aload_n C dX6_parseCommand_87 0 rfl ?_
        refine x_get (ref := "RomSearchBusModel") (v := .int er) C inX6 0 9 rfl rfl (by decide) kw_fl_X6_141 rfl rfl dX6_parseCommand_88 ?_
        refine x_if_ge (tgt := 132) C dX6_parseCommand_91 (by decide) (fun c_91 => ?_) (fun c_91 => absurd c_34 c_91)
        have hT := pcI_er hI c_34
        have hu : mcQ y (rs (rs (rs (va_up y 6 nr) 7 3 (nI p)) 7 4 er) 7 5 (nI nc)) L cu nc := ⟨fun _ _ => rfl, hI.2.1, fun z => absurd z (by rw [hT.1]; exact Bool.false_ne_true), fun _ => hT.2⟩
        exact x_vret C hr hlocks (rs (rs (rs (va_up y 6 nr) 7 3 (nI p)) 7 4 er) 7 5 (nI nc)) hu (gEq.rf _) dX6_parseCommand_132
      · obtain ⟨her, hp1, hp2, hN⟩ := pcI_ok hL2 hcu hI c_34
        refine x_aload_n C dX6_parseCommand_37 0 rfl ?_
        refine x_get (ref := "RomSearchBusModel") (v := .ref (g 7)) C inX6 0 12 rfl rfl (by decide) kw_fl_X6_28 rfl rfl dX6_parseCommand_38 ?_
        refine x_iconst (v := 3) C dX6_parseCommand_41 (by decide) ?_
        refine x_aload_n C dX6_parseCommand_42 0 rfl ?_
        refine x_get (ref := "RomSearchBusModel") (v := .int (nI nc)) C inX6 0 10 rfl rfl (by decide) kw_fl_X6_158 rfl rfl dX6_parseCommand_43 ?_
        refine x_imul C dX6_parseCommand_46 ?_
        refine x_iload_n C dX6_parseCommand_47 3 rfl ?_
        refine x_iadd C dX6_parseCommand_48 ?_
        refine x_aload_n C dX6_parseCommand_49 0 rfl ?_
        refine Wd.mrg (P := ((atP (y 4) L cu) = 118 ∧ (nI i) = 1) ∨ ((atP (y 4) L cu) = 108 ∧ (nI i) = 2)) (a := 1) (b := 0) (pc2 := 77) (w2 := [((g 0), .inr (6, [.ref (g 1), .ref (g 2), .ref (g 3), .int (y 7 0), .ref (g 4), .int (y 7 1), .ref (g 5), .int (y 7 2), .int (nI p), .int er, .int (nI nc), .ref (g 6), .ref (g 7), .long z])), ((g 1), .inl (E.2.1, 47, .inl (y 0))), ((g 2), .inl (E.2.1, 47, .inl (y 1))), ((g 3), .inl (E.2.1, 235, .inl (y 2))), ((g 4), .inl (E.2.1, 8, .inl (y 3))), ((g 5), .inl (E.2.1, 120, .inl (y 4))), ((g 6), .inl (E.2.1, 60, .inl (y 5))), ((g 7), .inl (E.2.1, 180, .inl nr))]) (lv2 := [(0, .ref (g 0)), (1, .int (atP (y 4) L cu)), (2, .int (f_X1_numbersNeeded_r (atP (y 4) L cu))), (3, .int (nI i))]) (st2 := [.ref (g 0), .int ((3 * (nI nc)) + (nI i)), .ref (g 7)]) (fun j1 j2 => ?_) ?_
        · refine x_iload_n C dX6_parseCommand_50 1 rfl ?_
          refine x_bipush (v := 118) C dX6_parseCommand_51 (by decide) ?_
          refine x_icmp_ne (tgt := 61) C dX6_parseCommand_53 (by decide) (fun c_53 => ?_) (fun c_53 => ?_)
          · refine x_iload_n C dX6_parseCommand_61 1 rfl ?_
            refine x_bipush (v := 108) C dX6_parseCommand_62 (by decide) ?_
            refine x_icmp_ne (tgt := 76) C dX6_parseCommand_64 (by decide) (fun c_64 => ?_) (fun c_64 => ?_)
            · refine x_iconst (v := 0) C dX6_parseCommand_76 (by decide) ?_
              exact j2 (fun z0 => z0.elim (fun z1 => c_53 z1.1) (fun z1 => c_64 z1.1))
            · refine x_iload_n C dX6_parseCommand_67 3 rfl ?_
              refine x_iconst (v := 2) C dX6_parseCommand_68 (by decide) ?_
              refine x_icmp_ne (tgt := 76) C dX6_parseCommand_69 (by decide) (fun c_69 => ?_) (fun c_69 => ?_)
              · refine x_iconst (v := 0) C dX6_parseCommand_76 (by decide) ?_
                exact j2 (fun z0 => z0.elim (fun z1 => c_53 z1.1) (fun z1 => c_69 z1.2))
              · refine x_iconst (v := 1) C dX6_parseCommand_72 (by decide) ?_
                refine x_goto (tgt := 77) C dX6_parseCommand_73 (by decide) ?_
                exact j1 (Or.inr ⟨c_64, c_69⟩)
          · refine x_iload_n C dX6_parseCommand_56 3 rfl ?_
            refine x_iconst (v := 1) C dX6_parseCommand_57 (by decide) ?_
            refine x_icmp_eq (tgt := 72) C dX6_parseCommand_58 (by decide) (fun c_58 => ?_) (fun c_58 => ?_)
            · refine x_iconst (v := 1) C dX6_parseCommand_72 (by decide) ?_
              refine x_goto (tgt := 77) C dX6_parseCommand_73 (by decide) ?_
              exact j1 (Or.inl ⟨c_53, c_58⟩)
            · refine x_iload_n C dX6_parseCommand_61 1 rfl ?_
              refine x_bipush (v := 108) C dX6_parseCommand_62 (by decide) ?_
              refine x_icmp_ne (tgt := 76) C dX6_parseCommand_64 (by decide) (fun c_64 => ?_) (fun c_64 => ?_)
              · refine x_iconst (v := 0) C dX6_parseCommand_76 (by decide) ?_
                exact j2 (fun z0 => z0.elim (fun z1 => c_58 z1.2) (fun z1 => c_64 z1.1))
              · refine x_iload_n C dX6_parseCommand_67 3 rfl ?_
                refine x_iconst (v := 2) C dX6_parseCommand_68 (by decide) ?_
                refine x_icmp_ne (tgt := 76) C dX6_parseCommand_69 (by decide) (fun c_69 => ?_) (fun c_69 => ?_)
                · refine x_iconst (v := 0) C dX6_parseCommand_76 (by decide) ?_
                  exact j2 (fun z0 => z0.elim (fun z1 => c_58 z1.2) (fun z1 => c_69 z1.2))
                · refine x_iconst (v := 1) C dX6_parseCommand_72 (by decide) ?_
                  refine x_goto (tgt := 77) C dX6_parseCommand_73 (by decide) ?_
                  exact j1 (Or.inr ⟨c_64, c_69⟩)
        refine Wd.cast (w1 := [((g 0), .inr (6, [.ref (g 1), .ref (g 2), .ref (g 3), .int (y 7 0), .ref (g 4), .int (y 7 1), .ref (g 5), .int (y 7 2), .int (nI p), .int er, .int (nI nc), .ref (g 6), .ref (g 7), .long z])), ((g 1), .inl (E.2.1, 47, .inl (y 0))), ((g 2), .inl (E.2.1, 47, .inl (y 1))), ((g 3), .inl (E.2.1, 235, .inl (y 2))), ((g 4), .inl (E.2.1, 8, .inl (y 3))), ((g 5), .inl (E.2.1, 120, .inl (y 4))), ((g 6), .inl (E.2.1, 60, .inl (y 5))), ((g 7), .inl (E.2.1, 180, .inl nr))]) (lv1 := [(0, .ref (g 0)), (1, .int (atP (y 4) L cu)), (2, .int (f_X1_numbersNeeded_r (atP (y 4) L cu))), (3, .int (nI i))]) (st1 := [.int (sgP (atP (y 4) L cu) i), .ref (g 0), .int ((3 * (nI nc)) + (nI i)), .ref (g 7)]) rfl rfl rfl ?_
        refine x_callVI (wc := [((g 0), .inr (6, [.ref (g 1), .ref (g 2), .ref (g 3), .int (y 7 0), .ref (g 4), .int (y 7 1), .ref (g 5), .int (y 7 2), .int (nI p), .int er, .int (nI nc), .ref (g 6), .ref (g 7), .long z])), ((g 1), .inl (E.2.1, 47, .inl (y 0))), ((g 2), .inl (E.2.1, 47, .inl (y 1))), ((g 3), .inl (E.2.1, 235, .inl (y 2))), ((g 4), .inl (E.2.1, 8, .inl (y 3))), ((g 5), .inl (E.2.1, 120, .inl (y 4))), ((g 6), .inl (E.2.1, 60, .inl (y 5))), ((g 7), .inl (E.2.1, 180, .inl nr))]) (wr := []) (As := [.int (sgP (atP (y 4) L cu) i)]) (rest := [.int ((3 * (nI nc)) + (nI i)), .ref (g 7)]) (ci := 6) (q0 := 0) C (c_X6_number l E g (rs (rs (rs (va_up y 6 nr) 7 3 (nI p)) 7 4 er) 7 5 (nI nc)) z (sgP (atP (y 4) L cu) i) L p ht hL2 rfl (by omega) her) (gWV C kw_ml_X6_161 kw_im_X6_number kw_sel_X6_number kw_ini_X6 kw_code_X6_number ga_X6_number ⟨Nat.le_of_ble_eq_true rfl, Nat.le_of_ble_eq_true rfl⟩) rfl rfl [0, 1, 2, 3, 4, 5, 6, 7] [] [0, 1, 2, 3, 4, 5, 6, 7] rfl rfl rfl rfl (by decide) (fun _ => [((g 0), .inr (6, [.ref (g 1), .ref (g 2), .ref (g 3), .int (y 7 0), .ref (g 4), .int (y 7 1), .ref (g 5), .int (y 7 2), .int (nI (nE (y 4) L (skip (y 4) L p) (sgP (atP (y 4) L cu) i))), .int (if nOk (y 4) L (skip (y 4) L p) (sgP (atP (y 4) L cu) i) then (-1) else (nI (nE (y 4) L (skip (y 4) L p) (sgP (atP (y 4) L cu) i)))), .int (nI nc), .ref (g 6), .ref (g 7), .long z])), ((g 1), .inl (E.2.1, 47, .inl (y 0))), ((g 2), .inl (E.2.1, 47, .inl (y 1))), ((g 3), .inl (E.2.1, 235, .inl (y 2))), ((g 4), .inl (E.2.1, 8, .inl (y 3))), ((g 5), .inl (E.2.1, 120, .inl (y 4))), ((g 6), .inl (E.2.1, 60, .inl (y 5))), ((g 7), .inl (E.2.1, 180, .inl nr))]) rfl (fun _ => rfl) rfl (Nat.le_of_ble_eq_true rfl) ⟨Nat.le_of_ble_eq_true rfl, Nat.le_of_ble_eq_true rfl⟩ rfl dX6_parseCommand_77 (fun r_15 _ e_16 => ?_)
        subst e_16
        refine Wd.cast (w1 := [((g 0), .inr (6, [.ref (g 1), .ref (g 2), .ref (g 3), .int (y 7 0), .ref (g 4), .int (y 7 1), .ref (g 5), .int (y 7 2), .int (nI (nE (y 4) L (skip (y 4) L p) (sgP (atP (y 4) L cu) i))), .int (if nOk (y 4) L (skip (y 4) L p) (sgP (atP (y 4) L cu) i) then (-1) else (nI (nE (y 4) L (skip (y 4) L p) (sgP (atP (y 4) L cu) i)))), .int (nI nc), .ref (g 6), .ref (g 7), .long z])), ((g 1), .inl (E.2.1, 47, .inl (y 0))), ((g 2), .inl (E.2.1, 47, .inl (y 1))), ((g 3), .inl (E.2.1, 235, .inl (y 2))), ((g 4), .inl (E.2.1, 8, .inl (y 3))), ((g 5), .inl (E.2.1, 120, .inl (y 4))), ((g 6), .inl (E.2.1, 60, .inl (y 5))), ((g 7), .inl (E.2.1, 180, .inl nr))]) (lv1 := [(0, .ref (g 0)), (1, .int (atP (y 4) L cu)), (2, .int (f_X1_numbersNeeded_r (atP (y 4) L cu))), (3, .int (nI i))]) (st1 := [.int (nVal (y 4) L (skip (y 4) L p) (sgP (atP (y 4) L cu) i)), .int ((3 * (nI nc)) + (nI i)), .ref (g 7)]) rfl rfl rfl ?_
        refine x_iastN (K := (3 * nc + i)) C 7 rfl (ix3 nc i) (by omega) (by decide) [((g 0), .inr (6, [.ref (g 1), .ref (g 2), .ref (g 3), .int (y 7 0), .ref (g 4), .int (y 7 1), .ref (g 5), .int (y 7 2), .int (nI (nE (y 4) L (skip (y 4) L p) (sgP (atP (y 4) L cu) i))), .int (if nOk (y 4) L (skip (y 4) L p) (sgP (atP (y 4) L cu) i) then (-1) else (nI (nE (y 4) L (skip (y 4) L p) (sgP (atP (y 4) L cu) i)))), .int (nI nc), .ref (g 6), .ref (g 7), .long z])), ((g 1), .inl (E.2.1, 47, .inl (y 0))), ((g 2), .inl (E.2.1, 47, .inl (y 1))), ((g 3), .inl (E.2.1, 235, .inl (y 2))), ((g 4), .inl (E.2.1, 8, .inl (y 3))), ((g 5), .inl (E.2.1, 120, .inl (y 4))), ((g 6), .inl (E.2.1, 60, .inl (y 5))), ((g 7), .inl (E.2.1, 180, .inl (upd nr (3 * nc + i) (nVal (y 4) L (skip (y 4) L p) (sgP (atP (y 4) L cu) i)))))] rfl dX6_parseCommand_80 ?_
        refine x_iinc (j := 3) (v := (nI (i + 1))) (lv1 := [(3, .int (nI (i + 1))), (0, .ref (g 0)), (1, .int (atP (y 4) L cu)), (2, .int (f_X1_numbersNeeded_r (atP (y 4) L cu)))]) C dX6_parseCommand_81 rfl (nI_1 _) (by decide) rfl ?_
        refine x_goto (tgt := 25) C dX6_parseCommand_84 (by decide) ?_
        refine Wd.locs (lv1 := [(0, .ref (g 0)), (1, .int (atP (y 4) L cu)), (2, .int (f_X1_numbersNeeded_r (atP (y 4) L cu))), (3, .int (nI (i + 1)))]) [1, 2, 3, 0] rfl ?_
        exact Wd.cast (w1 := [((g 0), .inr (6, [.ref (g 1), .ref (g 2), .ref (g 3), .int (y 7 0), .ref (g 4), .int (y 7 1), .ref (g 5), .int (y 7 2), .int (nI (nE (y 4) L (skip (y 4) L p) (sgP (atP (y 4) L cu) i))), .int (if nOk (y 4) L (skip (y 4) L p) (sgP (atP (y 4) L cu) i) then (-1) else (nI (nE (y 4) L (skip (y 4) L p) (sgP (atP (y 4) L cu) i)))), .int (nI nc), .ref (g 6), .ref (g 7), .long z])), ((g 1), .inl (E.2.1, 47, .inl (y 0))), ((g 2), .inl (E.2.1, 47, .inl (y 1))), ((g 3), .inl (E.2.1, 235, .inl (y 2))), ((g 4), .inl (E.2.1, 8, .inl (y 3))), ((g 5), .inl (E.2.1, 120, .inl (y 4))), ((g 6), .inl (E.2.1, 60, .inl (y 5))), ((g 7), .inl (E.2.1, 180, .inl (upd nr (3 * nc + i) (nVal (y 4) L (skip (y 4) L p) (sgP (atP (y 4) L cu) i)))))]) (lv1 := [(0, .ref (g 0)), (1, .int (atP (y 4) L cu)), (2, .int (f_X1_numbersNeeded_r (atP (y 4) L cu))), (3, .int (nI (i + 1)))]) rfl rfl rfl (ih (i + 1) (nE (y 4) L (skip (y 4) L p) (sgP (atP (y 4) L cu) i)) (upd nr (3 * nc + i) (nVal (y 4) L (skip (y 4) L p) (sgP (atP (y 4) L cu) i))) (if nOk (y 4) L (skip (y 4) L p) (sgP (atP (y 4) L cu) i) then (-1) else (nI (nE (y 4) L (skip (y 4) L p) (sgP (atP (y 4) L cu) i)))) (pcI_s hL2 hI her hp1 hp2 hN hlt) (by omega))
