/-! the reference: rows 0 now, 1 before, 2 saved, 3 errors, 4 text, 5 letters, 6 numbers; 7: savedCount, cause, typed, at, syntaxError, commands -/
def cpK (f g : Nat → Int32) (k : Nat) : Nat → Int32 := fun j => if j < k then f j else g j
theorem cpK_0 (f g : Nat → Int32) : g = cpK f g 0 := by funext j; unfold cpK; rw [if_neg (Nat.not_lt_zero _)]
theorem cpK_s (f g : Nat → Int32) (k : Nat) : upd (cpK f g k) k (f k) = cpK f g (k + 1) := by
  funext j; unfold upd cpK
  by_cases e : j = k
  · subst e; rw [if_pos rfl, if_pos (Nat.lt_succ_self _)]
  · rw [if_neg e]
    by_cases e2 : j < k
    · rw [if_pos e2, if_pos (by omega)]
    · rw [if_neg e2, if_neg (by omega)]
theorem cpK_all {f g : Nat → Int32} {n : Nat} : ∀ j, j < n → cpK f g n j = f j := fun j h => if_pos h
/-- the places below k taken from 47 further on -/
def shS (f : Nat → Int32) (k : Nat) : Nat → Int32 := fun j => if j < k then f (j + 47) else f j
theorem shS_0 (f : Nat → Int32) : f = shS f 0 := by funext j; unfold shS; rw [if_neg (Nat.not_lt_zero _)]
theorem shS_s (f : Nat → Int32) (k : Nat) : upd (shS f k) k (shS f k (k + 47)) = shS f (k + 1) := by
  funext j; unfold upd shS
  by_cases e : j = k
  · subst e; rw [if_pos rfl, if_neg (by omega), if_pos (Nat.lt_succ_self _)]
  · rw [if_neg e]
    by_cases e2 : j < k
    · rw [if_pos e2, if_pos (by omega)]
    · rw [if_neg e2, if_neg (by omega)]
/-- k places from B on taken from g -/
def cpA (f : Nat → Int32) (B : Nat) (g : Nat → Int32) (k : Nat) : Nat → Int32 := fun j => if B ≤ j ∧ j < B + k then g (j - B) else f j
theorem cpA_0 (f : Nat → Int32) (B : Nat) (g : Nat → Int32) : f = cpA f B g 0 := by funext j; unfold cpA; rw [if_neg (by omega)]
theorem cpA_s (f : Nat → Int32) (B : Nat) (g : Nat → Int32) (k : Nat) : upd (cpA f B g k) (B + k) (g k) = cpA f B g (k + 1) := by
  funext j; unfold upd cpA
  by_cases e : j = B + k
  · subst e; rw [if_pos rfl, if_pos (by omega), show B + k - B = k by omega]
  · rw [if_neg e]
    by_cases e2 : B ≤ j ∧ j < B + k
    · rw [if_pos e2, if_pos (by omega)]
    · rw [if_neg e2, if_neg (by omega)]
def svR (f : Nat → Int32) (c : Nat) (g : Nat → Int32) : Nat → Int32 := if c = 5 then cpA (shS f 188) 188 g 47 else cpA f (47 * c) g 47
theorem ixD (K J : Nat) : ((1 : Int32) + 4 * nI K) + nI J = nI (1 + 4 * K + J) := by rw [show (1 : Int32) = nI 1 from rfl, show (4 : Int32) = nI 4 from rfl, pk_mul, nI_add, nI_add]
theorem ixE (K : Nat) : (1 : Int32) + 4 * nI K = nI (1 + 4 * K) := by rw [show (1 : Int32) = nI 1 from rfl, show (4 : Int32) = nI 4 from rfl, pk_mul, nI_add]
theorem ix41 (k : Nat) : (41 : Int32) + nI k = nI (41 + k) := by rw [show (41 : Int32) = nI 41 from rfl, nI_add]
theorem ix47 (c k : Nat) : (47 : Int32) * nI c + nI k = nI (47 * c + k) := by rw [show (47 : Int32) = nI 47 from rfl, pk_mul, nI_add]
theorem ixP (k j : Nat) {x : Int32} (h : x = nI j) : nI k + x = nI (k + j) := by rw [h, nI_add]
set_option maxHeartbeats 4000000 in
set_option maxRecDepth 100000 in
theorem c_X6_counted (l : Launch) (E : gE) (g : Nat → Nat) (y : Nat → Nat → Int32) (z : Int64) (q : Int32) (he : eP q) : CtI l E yX6_counted prog_8_method_3_code 2 (some .int) 0 0 0 0 [.ref (g 0), .int q] [((g 0), .inr (6, [.ref (g 1), .ref (g 2), .ref (g 3), .int (y 7 0), .ref (g 4), .int (y 7 1), .ref (g 5), .int (y 7 2), .int (y 7 3), .int (y 7 4), .int (y 7 5), .ref (g 6), .ref (g 7), .long z])), ((g 1), .inl (E.2.1, 47, .inl (y 0))), ((g 2), .inl (E.2.1, 47, .inl (y 1))), ((g 3), .inl (E.2.1, 235, .inl (y 2))), ((g 4), .inl (E.2.1, 8, .inl (y 3))), ((g 5), .inl (E.2.1, 120, .inl (y 4))), ((g 6), .inl (E.2.1, 60, .inl (y 5))), ((g 7), .inl (E.2.1, 180, .inl (y 6)))] (fun r (_ : Unit) => r = q) (fun _ => [((g 0), .inr (6, [.ref (g 1), .ref (g 2), .ref (g 3), .int (y 7 0), .ref (g 4), .int (y 7 1), .ref (g 5), .int (y 7 2), .int (y 7 3), .int (y 7 4), .int (y 7 5), .ref (g 6), .ref (g 7), .long z])), ((g 1), .inl (E.2.1, 47, .inl (y 0))), ((g 2), .inl (E.2.1, 47, .inl (y 1))), ((g 3), .inl (E.2.1, 235, .inl (y 2))), ((g 4), .inl (E.2.1, 8, .inl (upd (y 3) (eK q) ((y 3 (eK q)) + 1)))), ((g 5), .inl (E.2.1, 120, .inl (y 4))), ((g 6), .inl (E.2.1, 60, .inl (y 5))), ((g 7), .inl (E.2.1, 180, .inl (y 6)))]) := by
  refine CtI.start (by decide) (Nat.le_of_ble_eq_true rfl) ?_
  intro p_ e_ s_ m_ below_ meth_ c_ A_ C hr hlocks hnm
  refine Wd.cast (lv1 := [(0, .ref (g 0)), (1, .int q)]) rfl rfl rfl ?_
  refine x_aload_n C dX6_counted_0 0 rfl ?_
  refine x_get (ref := "RomSearchBusModel") (v := .ref (g 4)) C inX6 0 4 rfl rfl (by decide) kw_fl_X6_19 rfl rfl dX6_counted_1 ?_
  refine x_bipush (v := (-2)) C dX6_counted_4 (by decide) ?_
  refine x_iload_n C dX6_counted_6 1 rfl ?_
  refine x_isub C dX6_counted_7 ?_
  refine x_dup2 C dX6_counted_8 rfl rfl ?_
  refine x_ialdN (K := (eK q)) (x := (y 3 (eK q))) C 4 rfl (eK_ok he).1 (eK_ok he).2 (by decide) rfl dX6_counted_9 ?_
  refine x_iconst (v := 1) C dX6_counted_10 (by decide) ?_
  refine x_iadd C dX6_counted_11 ?_
  refine x_iastN (K := (eK q)) C 4 rfl (eK_ok he).1 (eK_ok he).2 (by decide) [((g 0), .inr (6, [.ref (g 1), .ref (g 2), .ref (g 3), .int (y 7 0), .ref (g 4), .int (y 7 1), .ref (g 5), .int (y 7 2), .int (y 7 3), .int (y 7 4), .int (y 7 5), .ref (g 6), .ref (g 7), .long z])), ((g 1), .inl (E.2.1, 47, .inl (y 0))), ((g 2), .inl (E.2.1, 47, .inl (y 1))), ((g 3), .inl (E.2.1, 235, .inl (y 2))), ((g 4), .inl (E.2.1, 8, .inl (upd (y 3) (eK q) ((y 3 (eK q)) + 1)))), ((g 5), .inl (E.2.1, 120, .inl (y 4))), ((g 6), .inl (E.2.1, 60, .inl (y 5))), ((g 7), .inl (E.2.1, 180, .inl (y 6)))] rfl dX6_counted_12 ?_
  refine x_iload_n C dX6_counted_13 1 rfl ?_
  exact x_iret C hr hlocks rfl () rfl (gEq.rf _) dX6_counted_14
set_option maxHeartbeats 4000000 in
set_option maxRecDepth 100000 in
theorem c_X6_remember (l : Launch) (E : gE) (g : Nat → Nat) (y : Nat → Nat → Int32) (z : Int64)  : CtV l E yX6_remember prog_8_method_4_code 2 none 0 0 0 0 [.ref (g 0)] [((g 0), .inr (6, [.ref (g 1), .ref (g 2), .ref (g 3), .int (y 7 0), .ref (g 4), .int (y 7 1), .ref (g 5), .int (y 7 2), .int (y 7 3), .int (y 7 4), .int (y 7 5), .ref (g 6), .ref (g 7), .long z])), ((g 1), .inl (E.2.1, 47, .inl (y 0))), ((g 2), .inl (E.2.1, 47, .inl (y 1))), ((g 3), .inl (E.2.1, 235, .inl (y 2))), ((g 4), .inl (E.2.1, 8, .inl (y 3))), ((g 5), .inl (E.2.1, 120, .inl (y 4))), ((g 6), .inl (E.2.1, 60, .inl (y 5))), ((g 7), .inl (E.2.1, 180, .inl (y 6)))] (fun _ : Unit => True) (fun _ => [((g 0), .inr (6, [.ref (g 1), .ref (g 2), .ref (g 3), .int (y 7 0), .ref (g 4), .int (y 7 1), .ref (g 5), .int (y 7 2), .int (y 7 3), .int (y 7 4), .int (y 7 5), .ref (g 6), .ref (g 7), .long z])), ((g 1), .inl (E.2.1, 47, .inl (y 0))), ((g 2), .inl (E.2.1, 47, .inl (y 0))), ((g 3), .inl (E.2.1, 235, .inl (y 2))), ((g 4), .inl (E.2.1, 8, .inl (y 3))), ((g 5), .inl (E.2.1, 120, .inl (y 4))), ((g 6), .inl (E.2.1, 60, .inl (y 5))), ((g 7), .inl (E.2.1, 180, .inl (y 6)))]) := by
  refine CtV.start (by decide) (Nat.le_of_ble_eq_true rfl) ?_
  intro p_ e_ s_ m_ below_ meth_ c_ A_ C hr hlocks hnm
  refine Wd.cast (lv1 := [(0, .ref (g 0))]) rfl rfl rfl ?_
  refine x_iconst (v := 0) C dX6_remember_0 (by decide) ?_
  refine x_istore_n (lv1 := [(1, .int 0), (0, .ref (g 0))]) C dX6_remember_1 (by decide) rfl ?_
  refine Wd.locs (lv1 := [(0, .ref (g 0)), (1, .int 0)]) [1, 0] rfl ?_
  have w_1 : (y 1) = (cpK (y 0) (y 1) 0) := (cpK_0 _ _)
  refine Wd.cast (w1 := [((g 0), .inr (6, [.ref (g 1), .ref (g 2), .ref (g 3), .int (y 7 0), .ref (g 4), .int (y 7 1), .ref (g 5), .int (y 7 2), .int (y 7 3), .int (y 7 4), .int (y 7 5), .ref (g 6), .ref (g 7), .long z])), ((g 1), .inl (E.2.1, 47, .inl (y 0))), ((g 2), .inl (E.2.1, 47, .inl (cpK (y 0) (y 1) 0))), ((g 3), .inl (E.2.1, 235, .inl (y 2))), ((g 4), .inl (E.2.1, 8, .inl (y 3))), ((g 5), .inl (E.2.1, 120, .inl (y 4))), ((g 6), .inl (E.2.1, 60, .inl (y 5))), ((g 7), .inl (E.2.1, 180, .inl (y 6)))]) (lv1 := [(0, .ref (g 0)), (1, .int (nI 0))]) (by first | (rw [w_1]; done) | (rw [← w_1]; done) | simp only [w_1]) rfl rfl ?_
  refine Wd.up (W1 := fun k => [((g 0), .inr (6, [.ref (g 1), .ref (g 2), .ref (g 3), .int (y 7 0), .ref (g 4), .int (y 7 1), .ref (g 5), .int (y 7 2), .int (y 7 3), .int (y 7 4), .int (y 7 5), .ref (g 6), .ref (g 7), .long z])), ((g 1), .inl (E.2.1, 47, .inl (y 0))), ((g 2), .inl (E.2.1, 47, .inl (cpK (y 0) (y 1) k))), ((g 3), .inl (E.2.1, 235, .inl (y 2))), ((g 4), .inl (E.2.1, 8, .inl (y 3))), ((g 5), .inl (E.2.1, 120, .inl (y 4))), ((g 6), .inl (E.2.1, 60, .inl (y 5))), ((g 7), .inl (E.2.1, 180, .inl (y 6)))]) (LV := fun k => [(0, .ref (g 0)), (1, .int (nI k))]) (fun k => True) 0 47 (by omega) (trivial) (fun hI => ?_) (fun k hk0 hk hI ih => ?_)
  · refine Wd.cast (w1 := [((g 0), .inr (6, [.ref (g 1), .ref (g 2), .ref (g 3), .int (y 7 0), .ref (g 4), .int (y 7 1), .ref (g 5), .int (y 7 2), .int (y 7 3), .int (y 7 4), .int (y 7 5), .ref (g 6), .ref (g 7), .long z])), ((g 1), .inl (E.2.1, 47, .inl (y 0))), ((g 2), .inl (E.2.1, 47, .inl (cpK (y 0) (y 1) 47))), ((g 3), .inl (E.2.1, 235, .inl (y 2))), ((g 4), .inl (E.2.1, 8, .inl (y 3))), ((g 5), .inl (E.2.1, 120, .inl (y 4))), ((g 6), .inl (E.2.1, 60, .inl (y 5))), ((g 7), .inl (E.2.1, 180, .inl (y 6)))]) (lv1 := [(0, .ref (g 0)), (1, .int (nI 47))]) rfl rfl rfl ?_
    refine x_iload_n C dX6_remember_2 1 rfl ?_
    refine x_bipush (v := 47) C dX6_remember_3 (by decide) ?_
    refine x_icmp_ge (tgt := 26) C dX6_remember_5 (by decide) (fun c_5 => ?_) (fun c_5 => absurd (by decide) c_5)
    exact x_vret C hr hlocks () trivial ⟨rfl, Or.inl rfl, ⟨rfl, Or.inl rfl, ⟨rfl, Or.inr (Or.inl ⟨_, _, _, _, rfl, rfl, cpK_all⟩), ⟨rfl, Or.inl rfl, ⟨rfl, Or.inl rfl, ⟨rfl, Or.inl rfl, ⟨rfl, Or.inl rfl, ⟨rfl, Or.inl rfl, trivial⟩⟩⟩⟩⟩⟩⟩⟩ dX6_remember_26
  · refine Wd.cast (w1 := [((g 0), .inr (6, [.ref (g 1), .ref (g 2), .ref (g 3), .int (y 7 0), .ref (g 4), .int (y 7 1), .ref (g 5), .int (y 7 2), .int (y 7 3), .int (y 7 4), .int (y 7 5), .ref (g 6), .ref (g 7), .long z])), ((g 1), .inl (E.2.1, 47, .inl (y 0))), ((g 2), .inl (E.2.1, 47, .inl (cpK (y 0) (y 1) k))), ((g 3), .inl (E.2.1, 235, .inl (y 2))), ((g 4), .inl (E.2.1, 8, .inl (y 3))), ((g 5), .inl (E.2.1, 120, .inl (y 4))), ((g 6), .inl (E.2.1, 60, .inl (y 5))), ((g 7), .inl (E.2.1, 180, .inl (y 6)))]) (lv1 := [(0, .ref (g 0)), (1, .int (nI k))]) rfl rfl rfl ?_
    refine x_iload_n C dX6_remember_2 1 rfl ?_
    refine x_bipush (v := 47) C dX6_remember_3 (by decide) ?_
    refine x_icmp_ge (tgt := 26) C dX6_remember_5 (by decide) (fun c_5 => absurd c_5 (show ¬ nI 47 ≤ nI k from nI_ge hk (by decide))) (fun c_5 => ?_)
    refine x_aload_n C dX6_remember_8 0 rfl ?_
    refine x_get (ref := "RomSearchBusModel") (v := .ref (g 2)) C inX6 0 1 rfl rfl (by decide) kw_fl_X6_13 rfl rfl dX6_remember_9 ?_
    refine x_iload_n C dX6_remember_12 1 rfl ?_
    refine x_aload_n C dX6_remember_13 0 rfl ?_
    refine x_get (ref := "RomSearchBusModel") (v := .ref (g 1)) C inX6 0 0 rfl rfl (by decide) kw_fl_X6_7 rfl rfl dX6_remember_14 ?_
    refine x_iload_n C dX6_remember_17 1 rfl ?_
    refine x_ialdN (K := k) (x := (y 0 k)) C 1 rfl rfl (by omega) (by decide) rfl dX6_remember_18 ?_
    refine x_iastN (K := k) C 2 rfl rfl (by omega) (by decide) [((g 0), .inr (6, [.ref (g 1), .ref (g 2), .ref (g 3), .int (y 7 0), .ref (g 4), .int (y 7 1), .ref (g 5), .int (y 7 2), .int (y 7 3), .int (y 7 4), .int (y 7 5), .ref (g 6), .ref (g 7), .long z])), ((g 1), .inl (E.2.1, 47, .inl (y 0))), ((g 2), .inl (E.2.1, 47, .inl (upd (cpK (y 0) (y 1) k) k (y 0 k)))), ((g 3), .inl (E.2.1, 235, .inl (y 2))), ((g 4), .inl (E.2.1, 8, .inl (y 3))), ((g 5), .inl (E.2.1, 120, .inl (y 4))), ((g 6), .inl (E.2.1, 60, .inl (y 5))), ((g 7), .inl (E.2.1, 180, .inl (y 6)))] rfl dX6_remember_19 ?_
    refine x_iinc (j := 1) (v := (nI (k + 1))) (lv1 := [(1, .int (nI (k + 1))), (0, .ref (g 0))]) C dX6_remember_20 rfl (nI_1 _) (by decide) rfl ?_
    refine x_goto (tgt := 2) C dX6_remember_23 (by decide) ?_
    refine Wd.locs (lv1 := [(0, .ref (g 0)), (1, .int (nI (k + 1)))]) [1, 0] rfl ?_
    have w_2 : (upd (cpK (y 0) (y 1) k) k (y 0 k)) = (cpK (y 0) (y 1) (k + 1)) := (cpK_s _ _ _)
    exact Wd.cast (w1 := [((g 0), .inr (6, [.ref (g 1), .ref (g 2), .ref (g 3), .int (y 7 0), .ref (g 4), .int (y 7 1), .ref (g 5), .int (y 7 2), .int (y 7 3), .int (y 7 4), .int (y 7 5), .ref (g 6), .ref (g 7), .long z])), ((g 1), .inl (E.2.1, 47, .inl (y 0))), ((g 2), .inl (E.2.1, 47, .inl (cpK (y 0) (y 1) (k + 1)))), ((g 3), .inl (E.2.1, 235, .inl (y 2))), ((g 4), .inl (E.2.1, 8, .inl (y 3))), ((g 5), .inl (E.2.1, 120, .inl (y 4))), ((g 6), .inl (E.2.1, 60, .inl (y 5))), ((g 7), .inl (E.2.1, 180, .inl (y 6)))]) (lv1 := [(0, .ref (g 0)), (1, .int (nI (k + 1)))]) (by first | (rw [w_2]; done) | (rw [← w_2]; done) | simp only [w_2]) rfl rfl (ih trivial)
set_option maxHeartbeats 4000000 in
set_option maxRecDepth 100000 in
theorem c_X6_restore (l : Launch) (E : gE) (g : Nat → Nat) (y : Nat → Nat → Int32) (z : Int64)  : CtV l E yX6_restore prog_8_method_5_code 2 none 0 0 0 0 [.ref (g 0)] [((g 0), .inr (6, [.ref (g 1), .ref (g 2), .ref (g 3), .int (y 7 0), .ref (g 4), .int (y 7 1), .ref (g 5), .int (y 7 2), .int (y 7 3), .int (y 7 4), .int (y 7 5), .ref (g 6), .ref (g 7), .long z])), ((g 1), .inl (E.2.1, 47, .inl (y 0))), ((g 2), .inl (E.2.1, 47, .inl (y 1))), ((g 3), .inl (E.2.1, 235, .inl (y 2))), ((g 4), .inl (E.2.1, 8, .inl (y 3))), ((g 5), .inl (E.2.1, 120, .inl (y 4))), ((g 6), .inl (E.2.1, 60, .inl (y 5))), ((g 7), .inl (E.2.1, 180, .inl (y 6)))] (fun _ : Unit => True) (fun _ => [((g 0), .inr (6, [.ref (g 1), .ref (g 2), .ref (g 3), .int (y 7 0), .ref (g 4), .int (y 7 1), .ref (g 5), .int (y 7 2), .int (y 7 3), .int (y 7 4), .int (y 7 5), .ref (g 6), .ref (g 7), .long z])), ((g 1), .inl (E.2.1, 47, .inl (y 1))), ((g 2), .inl (E.2.1, 47, .inl (y 1))), ((g 3), .inl (E.2.1, 235, .inl (y 2))), ((g 4), .inl (E.2.1, 8, .inl (y 3))), ((g 5), .inl (E.2.1, 120, .inl (y 4))), ((g 6), .inl (E.2.1, 60, .inl (y 5))), ((g 7), .inl (E.2.1, 180, .inl (y 6)))]) := by
  refine CtV.start (by decide) (Nat.le_of_ble_eq_true rfl) ?_
  intro p_ e_ s_ m_ below_ meth_ c_ A_ C hr hlocks hnm
  refine Wd.cast (lv1 := [(0, .ref (g 0))]) rfl rfl rfl ?_
  refine x_iconst (v := 0) C dX6_restore_0 (by decide) ?_
  refine x_istore_n (lv1 := [(1, .int 0), (0, .ref (g 0))]) C dX6_restore_1 (by decide) rfl ?_
  refine Wd.locs (lv1 := [(0, .ref (g 0)), (1, .int 0)]) [1, 0] rfl ?_
  have w_1 : (y 0) = (cpK (y 1) (y 0) 0) := (cpK_0 _ _)
  refine Wd.cast (w1 := [((g 0), .inr (6, [.ref (g 1), .ref (g 2), .ref (g 3), .int (y 7 0), .ref (g 4), .int (y 7 1), .ref (g 5), .int (y 7 2), .int (y 7 3), .int (y 7 4), .int (y 7 5), .ref (g 6), .ref (g 7), .long z])), ((g 1), .inl (E.2.1, 47, .inl (cpK (y 1) (y 0) 0))), ((g 2), .inl (E.2.1, 47, .inl (y 1))), ((g 3), .inl (E.2.1, 235, .inl (y 2))), ((g 4), .inl (E.2.1, 8, .inl (y 3))), ((g 5), .inl (E.2.1, 120, .inl (y 4))), ((g 6), .inl (E.2.1, 60, .inl (y 5))), ((g 7), .inl (E.2.1, 180, .inl (y 6)))]) (lv1 := [(0, .ref (g 0)), (1, .int (nI 0))]) (by first | (rw [w_1]; done) | (rw [← w_1]; done) | simp only [w_1]) rfl rfl ?_
  refine Wd.up (W1 := fun k => [((g 0), .inr (6, [.ref (g 1), .ref (g 2), .ref (g 3), .int (y 7 0), .ref (g 4), .int (y 7 1), .ref (g 5), .int (y 7 2), .int (y 7 3), .int (y 7 4), .int (y 7 5), .ref (g 6), .ref (g 7), .long z])), ((g 1), .inl (E.2.1, 47, .inl (cpK (y 1) (y 0) k))), ((g 2), .inl (E.2.1, 47, .inl (y 1))), ((g 3), .inl (E.2.1, 235, .inl (y 2))), ((g 4), .inl (E.2.1, 8, .inl (y 3))), ((g 5), .inl (E.2.1, 120, .inl (y 4))), ((g 6), .inl (E.2.1, 60, .inl (y 5))), ((g 7), .inl (E.2.1, 180, .inl (y 6)))]) (LV := fun k => [(0, .ref (g 0)), (1, .int (nI k))]) (fun k => True) 0 47 (by omega) (trivial) (fun hI => ?_) (fun k hk0 hk hI ih => ?_)
  · refine Wd.cast (w1 := [((g 0), .inr (6, [.ref (g 1), .ref (g 2), .ref (g 3), .int (y 7 0), .ref (g 4), .int (y 7 1), .ref (g 5), .int (y 7 2), .int (y 7 3), .int (y 7 4), .int (y 7 5), .ref (g 6), .ref (g 7), .long z])), ((g 1), .inl (E.2.1, 47, .inl (cpK (y 1) (y 0) 47))), ((g 2), .inl (E.2.1, 47, .inl (y 1))), ((g 3), .inl (E.2.1, 235, .inl (y 2))), ((g 4), .inl (E.2.1, 8, .inl (y 3))), ((g 5), .inl (E.2.1, 120, .inl (y 4))), ((g 6), .inl (E.2.1, 60, .inl (y 5))), ((g 7), .inl (E.2.1, 180, .inl (y 6)))]) (lv1 := [(0, .ref (g 0)), (1, .int (nI 47))]) rfl rfl rfl ?_
    refine x_iload_n C dX6_restore_2 1 rfl ?_
    refine x_bipush (v := 47) C dX6_restore_3 (by decide) ?_
    refine x_icmp_ge (tgt := 26) C dX6_restore_5 (by decide) (fun c_5 => ?_) (fun c_5 => absurd (by decide) c_5)
    exact x_vret C hr hlocks () trivial ⟨rfl, Or.inl rfl, ⟨rfl, Or.inr (Or.inl ⟨_, _, _, _, rfl, rfl, cpK_all⟩), ⟨rfl, Or.inl rfl, ⟨rfl, Or.inl rfl, ⟨rfl, Or.inl rfl, ⟨rfl, Or.inl rfl, ⟨rfl, Or.inl rfl, ⟨rfl, Or.inl rfl, trivial⟩⟩⟩⟩⟩⟩⟩⟩ dX6_restore_26
  · refine Wd.cast (w1 := [((g 0), .inr (6, [.ref (g 1), .ref (g 2), .ref (g 3), .int (y 7 0), .ref (g 4), .int (y 7 1), .ref (g 5), .int (y 7 2), .int (y 7 3), .int (y 7 4), .int (y 7 5), .ref (g 6), .ref (g 7), .long z])), ((g 1), .inl (E.2.1, 47, .inl (cpK (y 1) (y 0) k))), ((g 2), .inl (E.2.1, 47, .inl (y 1))), ((g 3), .inl (E.2.1, 235, .inl (y 2))), ((g 4), .inl (E.2.1, 8, .inl (y 3))), ((g 5), .inl (E.2.1, 120, .inl (y 4))), ((g 6), .inl (E.2.1, 60, .inl (y 5))), ((g 7), .inl (E.2.1, 180, .inl (y 6)))]) (lv1 := [(0, .ref (g 0)), (1, .int (nI k))]) rfl rfl rfl ?_
    refine x_iload_n C dX6_restore_2 1 rfl ?_
    refine x_bipush (v := 47) C dX6_restore_3 (by decide) ?_
    refine x_icmp_ge (tgt := 26) C dX6_restore_5 (by decide) (fun c_5 => absurd c_5 (show ¬ nI 47 ≤ nI k from nI_ge hk (by decide))) (fun c_5 => ?_)
    refine x_aload_n C dX6_restore_8 0 rfl ?_
    refine x_get (ref := "RomSearchBusModel") (v := .ref (g 1)) C inX6 0 0 rfl rfl (by decide) kw_fl_X6_7 rfl rfl dX6_restore_9 ?_
    refine x_iload_n C dX6_restore_12 1 rfl ?_
    refine x_aload_n C dX6_restore_13 0 rfl ?_
    refine x_get (ref := "RomSearchBusModel") (v := .ref (g 2)) C inX6 0 1 rfl rfl (by decide) kw_fl_X6_13 rfl rfl dX6_restore_14 ?_
    refine x_iload_n C dX6_restore_17 1 rfl ?_
    refine x_ialdN (K := k) (x := (y 1 k)) C 2 rfl rfl (by omega) (by decide) rfl dX6_restore_18 ?_
    refine x_iastN (K := k) C 1 rfl rfl (by omega) (by decide) [((g 0), .inr (6, [.ref (g 1), .ref (g 2), .ref (g 3), .int (y 7 0), .ref (g 4), .int (y 7 1), .ref (g 5), .int (y 7 2), .int (y 7 3), .int (y 7 4), .int (y 7 5), .ref (g 6), .ref (g 7), .long z])), ((g 1), .inl (E.2.1, 47, .inl (upd (cpK (y 1) (y 0) k) k (y 1 k)))), ((g 2), .inl (E.2.1, 47, .inl (y 1))), ((g 3), .inl (E.2.1, 235, .inl (y 2))), ((g 4), .inl (E.2.1, 8, .inl (y 3))), ((g 5), .inl (E.2.1, 120, .inl (y 4))), ((g 6), .inl (E.2.1, 60, .inl (y 5))), ((g 7), .inl (E.2.1, 180, .inl (y 6)))] rfl dX6_restore_19 ?_
    refine x_iinc (j := 1) (v := (nI (k + 1))) (lv1 := [(1, .int (nI (k + 1))), (0, .ref (g 0))]) C dX6_restore_20 rfl (nI_1 _) (by decide) rfl ?_
    refine x_goto (tgt := 2) C dX6_restore_23 (by decide) ?_
    refine Wd.locs (lv1 := [(0, .ref (g 0)), (1, .int (nI (k + 1)))]) [1, 0] rfl ?_
    have w_2 : (upd (cpK (y 1) (y 0) k) k (y 1 k)) = (cpK (y 1) (y 0) (k + 1)) := (cpK_s _ _ _)
    exact Wd.cast (w1 := [((g 0), .inr (6, [.ref (g 1), .ref (g 2), .ref (g 3), .int (y 7 0), .ref (g 4), .int (y 7 1), .ref (g 5), .int (y 7 2), .int (y 7 3), .int (y 7 4), .int (y 7 5), .ref (g 6), .ref (g 7), .long z])), ((g 1), .inl (E.2.1, 47, .inl (cpK (y 1) (y 0) (k + 1)))), ((g 2), .inl (E.2.1, 47, .inl (y 1))), ((g 3), .inl (E.2.1, 235, .inl (y 2))), ((g 4), .inl (E.2.1, 8, .inl (y 3))), ((g 5), .inl (E.2.1, 120, .inl (y 4))), ((g 6), .inl (E.2.1, 60, .inl (y 5))), ((g 7), .inl (E.2.1, 180, .inl (y 6)))]) (lv1 := [(0, .ref (g 0)), (1, .int (nI (k + 1)))]) (by first | (rw [w_2]; done) | (rw [← w_2]; done) | simp only [w_2]) rfl rfl (ih trivial)
set_option maxHeartbeats 4000000 in
set_option maxRecDepth 100000 in
theorem c_X6_save (l : Launch) (E : gE) (g : Nat → Nat) (y : Nat → Nat → Int32) (z : Int64) (c : Nat) (hc : y 7 0 = nI c) (h5 : c ≤ 5) : CtV l E yX6_save prog_8_method_6_code 2 none 0 0 0 0 [.ref (g 0)] [((g 0), .inr (6, [.ref (g 1), .ref (g 2), .ref (g 3), .int (y 7 0), .ref (g 4), .int (y 7 1), .ref (g 5), .int (y 7 2), .int (y 7 3), .int (y 7 4), .int (y 7 5), .ref (g 6), .ref (g 7), .long z])), ((g 1), .inl (E.2.1, 47, .inl (y 0))), ((g 2), .inl (E.2.1, 47, .inl (y 1))), ((g 3), .inl (E.2.1, 235, .inl (y 2))), ((g 4), .inl (E.2.1, 8, .inl (y 3))), ((g 5), .inl (E.2.1, 120, .inl (y 4))), ((g 6), .inl (E.2.1, 60, .inl (y 5))), ((g 7), .inl (E.2.1, 180, .inl (y 6)))] (fun _ : Unit => True) (fun _ => [((g 0), .inr (6, [.ref (g 1), .ref (g 2), .ref (g 3), .int (nI (pN c)), .ref (g 4), .int (y 7 1), .ref (g 5), .int (y 7 2), .int (y 7 3), .int (y 7 4), .int (y 7 5), .ref (g 6), .ref (g 7), .long z])), ((g 1), .inl (E.2.1, 47, .inl (y 0))), ((g 2), .inl (E.2.1, 47, .inl (y 1))), ((g 3), .inl (E.2.1, 235, .inl (svR (y 2) c (y 1)))), ((g 4), .inl (E.2.1, 8, .inl (y 3))), ((g 5), .inl (E.2.1, 120, .inl (y 4))), ((g 6), .inl (E.2.1, 60, .inl (y 5))), ((g 7), .inl (E.2.1, 180, .inl (y 6)))]) := by
  refine CtV.start (by decide) (Nat.le_of_ble_eq_true rfl) ?_
  intro p_ e_ s_ m_ below_ meth_ c_ A_ C hr hlocks hnm
  refine Wd.cast (lv1 := [(0, .ref (g 0))]) rfl rfl rfl ?_
  refine x_aload_n C dX6_save_0 0 rfl ?_
  refine x_get (ref := "RomSearchBusModel") (v := .int (y 7 0)) C inX6 0 3 rfl rfl (by decide) kw_fl_X6_31 rfl rfl dX6_save_1 ?_
  refine x_iconst (v := 5) C dX6_save_4 (by decide) ?_
  refine x_icmp_ne (tgt := 48) C dX6_save_5 (by decide) (fun c_5 => ?_) (fun c_5 => ?_)
  · have hne : ¬ c = 5 := fun z0 => c_5 (by rw [hc, z0]; rfl)
    refine x_iconst (v := 0) C dX6_save_48 (by decide) ?_
    refine x_istore_n (lv1 := [(1, .int 0), (0, .ref (g 0))]) C dX6_save_49 (by decide) rfl ?_
    refine Wd.cast (w1 := [((g 0), .inr (6, [.ref (g 1), .ref (g 2), .ref (g 3), .int (nI c), .ref (g 4), .int (y 7 1), .ref (g 5), .int (y 7 2), .int (y 7 3), .int (y 7 4), .int (y 7 5), .ref (g 6), .ref (g 7), .long z])), ((g 1), .inl (E.2.1, 47, .inl (y 0))), ((g 2), .inl (E.2.1, 47, .inl (y 1))), ((g 3), .inl (E.2.1, 235, .inl (y 2))), ((g 4), .inl (E.2.1, 8, .inl (y 3))), ((g 5), .inl (E.2.1, 120, .inl (y 4))), ((g 6), .inl (E.2.1, 60, .inl (y 5))), ((g 7), .inl (E.2.1, 180, .inl (y 6)))]) (lv1 := [(1, .int 0), (0, .ref (g 0))]) (by rw [hc]) rfl rfl ?_
    refine Wd.locs (lv1 := [(0, .ref (g 0)), (1, .int 0)]) [1, 0] rfl ?_
    have w_1 : (y 2) = (cpA (y 2) (47 * c) (y 1) 0) := (cpA_0 _ _ _)
    refine Wd.cast (w1 := [((g 0), .inr (6, [.ref (g 1), .ref (g 2), .ref (g 3), .int (nI c), .ref (g 4), .int (y 7 1), .ref (g 5), .int (y 7 2), .int (y 7 3), .int (y 7 4), .int (y 7 5), .ref (g 6), .ref (g 7), .long z])), ((g 1), .inl (E.2.1, 47, .inl (y 0))), ((g 2), .inl (E.2.1, 47, .inl (y 1))), ((g 3), .inl (E.2.1, 235, .inl (cpA (y 2) (47 * c) (y 1) 0))), ((g 4), .inl (E.2.1, 8, .inl (y 3))), ((g 5), .inl (E.2.1, 120, .inl (y 4))), ((g 6), .inl (E.2.1, 60, .inl (y 5))), ((g 7), .inl (E.2.1, 180, .inl (y 6)))]) (lv1 := [(0, .ref (g 0)), (1, .int (nI 0))]) (by first | (rw [w_1]; done) | (rw [← w_1]; done) | simp only [w_1]) rfl rfl ?_
    refine Wd.up (W1 := fun k => [((g 0), .inr (6, [.ref (g 1), .ref (g 2), .ref (g 3), .int (nI c), .ref (g 4), .int (y 7 1), .ref (g 5), .int (y 7 2), .int (y 7 3), .int (y 7 4), .int (y 7 5), .ref (g 6), .ref (g 7), .long z])), ((g 1), .inl (E.2.1, 47, .inl (y 0))), ((g 2), .inl (E.2.1, 47, .inl (y 1))), ((g 3), .inl (E.2.1, 235, .inl (cpA (y 2) (47 * c) (y 1) k))), ((g 4), .inl (E.2.1, 8, .inl (y 3))), ((g 5), .inl (E.2.1, 120, .inl (y 4))), ((g 6), .inl (E.2.1, 60, .inl (y 5))), ((g 7), .inl (E.2.1, 180, .inl (y 6)))]) (LV := fun k => [(0, .ref (g 0)), (1, .int (nI k))]) (fun k => True) 0 47 (by omega) (trivial) (fun hI => ?_) (fun k hk0 hk hI ih => ?_)
    · refine Wd.cast (w1 := [((g 0), .inr (6, [.ref (g 1), .ref (g 2), .ref (g 3), .int (nI c), .ref (g 4), .int (y 7 1), .ref (g 5), .int (y 7 2), .int (y 7 3), .int (y 7 4), .int (y 7 5), .ref (g 6), .ref (g 7), .long z])), ((g 1), .inl (E.2.1, 47, .inl (y 0))), ((g 2), .inl (E.2.1, 47, .inl (y 1))), ((g 3), .inl (E.2.1, 235, .inl (cpA (y 2) (47 * c) (y 1) 47))), ((g 4), .inl (E.2.1, 8, .inl (y 3))), ((g 5), .inl (E.2.1, 120, .inl (y 4))), ((g 6), .inl (E.2.1, 60, .inl (y 5))), ((g 7), .inl (E.2.1, 180, .inl (y 6)))]) (lv1 := [(0, .ref (g 0)), (1, .int (nI 47))]) rfl rfl rfl ?_
      refine x_iload_n C dX6_save_50 1 rfl ?_
      refine x_bipush (v := 47) C dX6_save_51 (by decide) ?_
      refine x_icmp_ge (tgt := 82) C dX6_save_53 (by decide) (fun c_53 => ?_) (fun c_53 => absurd (by decide) c_53)
      refine x_aload_n C dX6_save_82 0 rfl ?_
      refine x_dup C dX6_save_83 rfl ?_
      refine x_get (ref := "RomSearchBusModel") (v := .int (nI c)) C inX6 0 3 rfl rfl (by decide) kw_fl_X6_31 rfl rfl dX6_save_84 ?_
      refine x_iconst (v := 1) C dX6_save_87 (by decide) ?_
      refine x_iadd C dX6_save_88 ?_
      refine x_put (ref := "RomSearchBusModel") C inX6 tyX6 tyX6_ok nmX6 0 3 rfl rfl (by decide) kw_fl_X6_31 rfl rfl rfl rfl (Nat.le_of_ble_eq_true rfl) [((g 0), .inr (6, [.ref (g 1), .ref (g 2), .ref (g 3), .int ((nI c) + 1), .ref (g 4), .int (y 7 1), .ref (g 5), .int (y 7 2), .int (y 7 3), .int (y 7 4), .int (y 7 5), .ref (g 6), .ref (g 7), .long z])), ((g 1), .inl (E.2.1, 47, .inl (y 0))), ((g 2), .inl (E.2.1, 47, .inl (y 1))), ((g 3), .inl (E.2.1, 235, .inl (cpA (y 2) (47 * c) (y 1) 47))), ((g 4), .inl (E.2.1, 8, .inl (y 3))), ((g 5), .inl (E.2.1, 120, .inl (y 4))), ((g 6), .inl (E.2.1, 60, .inl (y 5))), ((g 7), .inl (E.2.1, 180, .inl (y 6)))] rfl dX6_save_89 ?_
      exact x_vret C hr hlocks () trivial (by rw [show svR (y 2) c (y 1) = cpA (y 2) (47 * c) (y 1) 47 from if_neg hne, show pN c = c + 1 from if_neg hne, ← nI_1]; exact gEq.rf _) dX6_save_92
    · refine Wd.cast (w1 := [((g 0), .inr (6, [.ref (g 1), .ref (g 2), .ref (g 3), .int (nI c), .ref (g 4), .int (y 7 1), .ref (g 5), .int (y 7 2), .int (y 7 3), .int (y 7 4), .int (y 7 5), .ref (g 6), .ref (g 7), .long z])), ((g 1), .inl (E.2.1, 47, .inl (y 0))), ((g 2), .inl (E.2.1, 47, .inl (y 1))), ((g 3), .inl (E.2.1, 235, .inl (cpA (y 2) (47 * c) (y 1) k))), ((g 4), .inl (E.2.1, 8, .inl (y 3))), ((g 5), .inl (E.2.1, 120, .inl (y 4))), ((g 6), .inl (E.2.1, 60, .inl (y 5))), ((g 7), .inl (E.2.1, 180, .inl (y 6)))]) (lv1 := [(0, .ref (g 0)), (1, .int (nI k))]) rfl rfl rfl ?_
      refine x_iload_n C dX6_save_50 1 rfl ?_
      refine x_bipush (v := 47) C dX6_save_51 (by decide) ?_
      refine x_icmp_ge (tgt := 82) C dX6_save_53 (by decide) (fun c_53 => absurd c_53 (show ¬ nI 47 ≤ nI k from nI_ge hk (by decide))) (fun c_53 => ?_)
      refine x_aload_n C dX6_save_56 0 rfl ?_
      refine x_get (ref := "RomSearchBusModel") (v := .ref (g 3)) C inX6 0 2 rfl rfl (by decide) kw_fl_X6_16 rfl rfl dX6_save_57 ?_
      refine x_bipush (v := 47) C dX6_save_60 (by decide) ?_
      refine x_aload_n C dX6_save_62 0 rfl ?_
      refine x_get (ref := "RomSearchBusModel") (v := .int (nI c)) C inX6 0 3 rfl rfl (by decide) kw_fl_X6_31 rfl rfl dX6_save_63 ?_
      refine x_imul C dX6_save_66 ?_
      refine x_iload_n C dX6_save_67 1 rfl ?_
      refine x_iadd C dX6_save_68 ?_
      refine x_aload_n C dX6_save_69 0 rfl ?_
      refine x_get (ref := "RomSearchBusModel") (v := .ref (g 2)) C inX6 0 1 rfl rfl (by decide) kw_fl_X6_13 rfl rfl dX6_save_70 ?_
      refine x_iload_n C dX6_save_73 1 rfl ?_
      refine x_ialdN (K := k) (x := (y 1 k)) C 2 rfl rfl (by omega) (by decide) rfl dX6_save_74 ?_
      refine x_iastN (K := (47 * c + k)) C 3 rfl (ix47 c k) (by omega) (by decide) [((g 0), .inr (6, [.ref (g 1), .ref (g 2), .ref (g 3), .int (nI c), .ref (g 4), .int (y 7 1), .ref (g 5), .int (y 7 2), .int (y 7 3), .int (y 7 4), .int (y 7 5), .ref (g 6), .ref (g 7), .long z])), ((g 1), .inl (E.2.1, 47, .inl (y 0))), ((g 2), .inl (E.2.1, 47, .inl (y 1))), ((g 3), .inl (E.2.1, 235, .inl (upd (cpA (y 2) (47 * c) (y 1) k) (47 * c + k) (y 1 k)))), ((g 4), .inl (E.2.1, 8, .inl (y 3))), ((g 5), .inl (E.2.1, 120, .inl (y 4))), ((g 6), .inl (E.2.1, 60, .inl (y 5))), ((g 7), .inl (E.2.1, 180, .inl (y 6)))] rfl dX6_save_75 ?_
      refine x_iinc (j := 1) (v := (nI (k + 1))) (lv1 := [(1, .int (nI (k + 1))), (0, .ref (g 0))]) C dX6_save_76 rfl (nI_1 _) (by decide) rfl ?_
      refine x_goto (tgt := 50) C dX6_save_79 (by decide) ?_
      refine Wd.locs (lv1 := [(0, .ref (g 0)), (1, .int (nI (k + 1)))]) [1, 0] rfl ?_
      have w_2 : (upd (cpA (y 2) (47 * c) (y 1) k) (47 * c + k) (y 1 k)) = (cpA (y 2) (47 * c) (y 1) (k + 1)) := (cpA_s _ _ _ _)
      exact Wd.cast (w1 := [((g 0), .inr (6, [.ref (g 1), .ref (g 2), .ref (g 3), .int (nI c), .ref (g 4), .int (y 7 1), .ref (g 5), .int (y 7 2), .int (y 7 3), .int (y 7 4), .int (y 7 5), .ref (g 6), .ref (g 7), .long z])), ((g 1), .inl (E.2.1, 47, .inl (y 0))), ((g 2), .inl (E.2.1, 47, .inl (y 1))), ((g 3), .inl (E.2.1, 235, .inl (cpA (y 2) (47 * c) (y 1) (k + 1)))), ((g 4), .inl (E.2.1, 8, .inl (y 3))), ((g 5), .inl (E.2.1, 120, .inl (y 4))), ((g 6), .inl (E.2.1, 60, .inl (y 5))), ((g 7), .inl (E.2.1, 180, .inl (y 6)))]) (lv1 := [(0, .ref (g 0)), (1, .int (nI (k + 1)))]) (by first | (rw [w_2]; done) | (rw [← w_2]; done) | simp only [w_2]) rfl rfl (ih trivial)
  · have hc5 := c_5
    have hc5n : c = 5 := (nI_eq (by omega) (by decide)).mp (hc.symm.trans (show y 7 0 = nI 5 from c_5))
    refine x_iconst (v := 0) C dX6_save_8 (by decide) ?_
    refine x_istore_n (lv1 := [(1, .int 0), (0, .ref (g 0))]) C dX6_save_9 (by decide) rfl ?_
    refine Wd.locs (lv1 := [(0, .ref (g 0)), (1, .int 0)]) [1, 0] rfl ?_
    have w_3 : (y 2) = (shS (y 2) 0) := (shS_0 _)
    refine Wd.cast (w1 := [((g 0), .inr (6, [.ref (g 1), .ref (g 2), .ref (g 3), .int (y 7 0), .ref (g 4), .int (y 7 1), .ref (g 5), .int (y 7 2), .int (y 7 3), .int (y 7 4), .int (y 7 5), .ref (g 6), .ref (g 7), .long z])), ((g 1), .inl (E.2.1, 47, .inl (y 0))), ((g 2), .inl (E.2.1, 47, .inl (y 1))), ((g 3), .inl (E.2.1, 235, .inl (shS (y 2) 0))), ((g 4), .inl (E.2.1, 8, .inl (y 3))), ((g 5), .inl (E.2.1, 120, .inl (y 4))), ((g 6), .inl (E.2.1, 60, .inl (y 5))), ((g 7), .inl (E.2.1, 180, .inl (y 6)))]) (lv1 := [(0, .ref (g 0)), (1, .int (nI 0))]) (by first | (rw [w_3]; done) | (rw [← w_3]; done) | simp only [w_3]) rfl rfl ?_
    refine Wd.up (W1 := fun k => [((g 0), .inr (6, [.ref (g 1), .ref (g 2), .ref (g 3), .int (y 7 0), .ref (g 4), .int (y 7 1), .ref (g 5), .int (y 7 2), .int (y 7 3), .int (y 7 4), .int (y 7 5), .ref (g 6), .ref (g 7), .long z])), ((g 1), .inl (E.2.1, 47, .inl (y 0))), ((g 2), .inl (E.2.1, 47, .inl (y 1))), ((g 3), .inl (E.2.1, 235, .inl (shS (y 2) k))), ((g 4), .inl (E.2.1, 8, .inl (y 3))), ((g 5), .inl (E.2.1, 120, .inl (y 4))), ((g 6), .inl (E.2.1, 60, .inl (y 5))), ((g 7), .inl (E.2.1, 180, .inl (y 6)))]) (LV := fun k => [(0, .ref (g 0)), (1, .int (nI k))]) (fun k => True) 0 188 (by omega) (trivial) (fun hI => ?_) (fun k hk0 hk hI ih => ?_)
    · refine Wd.cast (w1 := [((g 0), .inr (6, [.ref (g 1), .ref (g 2), .ref (g 3), .int (y 7 0), .ref (g 4), .int (y 7 1), .ref (g 5), .int (y 7 2), .int (y 7 3), .int (y 7 4), .int (y 7 5), .ref (g 6), .ref (g 7), .long z])), ((g 1), .inl (E.2.1, 47, .inl (y 0))), ((g 2), .inl (E.2.1, 47, .inl (y 1))), ((g 3), .inl (E.2.1, 235, .inl (shS (y 2) 188))), ((g 4), .inl (E.2.1, 8, .inl (y 3))), ((g 5), .inl (E.2.1, 120, .inl (y 4))), ((g 6), .inl (E.2.1, 60, .inl (y 5))), ((g 7), .inl (E.2.1, 180, .inl (y 6)))]) (lv1 := [(0, .ref (g 0)), (1, .int (nI 188))]) rfl rfl rfl ?_
      refine x_iload_n C dX6_save_10 1 rfl ?_
      refine x_sipush (v := 188) C dX6_save_11 (by decide) ?_
      refine x_icmp_ge (tgt := 38) C dX6_save_14 (by decide) (fun c_14 => ?_) (fun c_14 => absurd (by decide) c_14)
      refine x_aload_n C dX6_save_38 0 rfl ?_
      refine x_dup C dX6_save_39 rfl ?_
      refine x_get (ref := "RomSearchBusModel") (v := .int (y 7 0)) C inX6 0 3 rfl rfl (by decide) kw_fl_X6_31 rfl rfl dX6_save_40 ?_
      refine x_iconst (v := 1) C dX6_save_43 (by decide) ?_
      refine x_isub C dX6_save_44 ?_
      refine x_put (ref := "RomSearchBusModel") C inX6 tyX6 tyX6_ok nmX6 0 3 rfl rfl (by decide) kw_fl_X6_31 rfl rfl rfl rfl (Nat.le_of_ble_eq_true rfl) [((g 0), .inr (6, [.ref (g 1), .ref (g 2), .ref (g 3), .int ((y 7 0) - 1), .ref (g 4), .int (y 7 1), .ref (g 5), .int (y 7 2), .int (y 7 3), .int (y 7 4), .int (y 7 5), .ref (g 6), .ref (g 7), .long z])), ((g 1), .inl (E.2.1, 47, .inl (y 0))), ((g 2), .inl (E.2.1, 47, .inl (y 1))), ((g 3), .inl (E.2.1, 235, .inl (shS (y 2) 188))), ((g 4), .inl (E.2.1, 8, .inl (y 3))), ((g 5), .inl (E.2.1, 120, .inl (y 4))), ((g 6), .inl (E.2.1, 60, .inl (y 5))), ((g 7), .inl (E.2.1, 180, .inl (y 6)))] rfl dX6_save_45 ?_
      refine x_iconst (v := 0) C dX6_save_48 (by decide) ?_
      refine x_istore_n (lv1 := [(1, .int 0), (0, .ref (g 0))]) C dX6_save_49 (by decide) rfl ?_
      refine Wd.cast (w1 := [((g 0), .inr (6, [.ref (g 1), .ref (g 2), .ref (g 3), .int (nI 4), .ref (g 4), .int (y 7 1), .ref (g 5), .int (y 7 2), .int (y 7 3), .int (y 7 4), .int (y 7 5), .ref (g 6), .ref (g 7), .long z])), ((g 1), .inl (E.2.1, 47, .inl (y 0))), ((g 2), .inl (E.2.1, 47, .inl (y 1))), ((g 3), .inl (E.2.1, 235, .inl (shS (y 2) 188))), ((g 4), .inl (E.2.1, 8, .inl (y 3))), ((g 5), .inl (E.2.1, 120, .inl (y 4))), ((g 6), .inl (E.2.1, 60, .inl (y 5))), ((g 7), .inl (E.2.1, 180, .inl (y 6)))]) (lv1 := [(1, .int 0), (0, .ref (g 0))]) (by rw [hc5]; rfl) rfl rfl ?_
      refine Wd.locs (lv1 := [(0, .ref (g 0)), (1, .int 0)]) [1, 0] rfl ?_
      have w_4 : (shS (y 2) 188) = (cpA (shS (y 2) 188) 188 (y 1) 0) := (cpA_0 _ _ _)
      refine Wd.cast (w1 := [((g 0), .inr (6, [.ref (g 1), .ref (g 2), .ref (g 3), .int (nI 4), .ref (g 4), .int (y 7 1), .ref (g 5), .int (y 7 2), .int (y 7 3), .int (y 7 4), .int (y 7 5), .ref (g 6), .ref (g 7), .long z])), ((g 1), .inl (E.2.1, 47, .inl (y 0))), ((g 2), .inl (E.2.1, 47, .inl (y 1))), ((g 3), .inl (E.2.1, 235, .inl (cpA (shS (y 2) 188) 188 (y 1) 0))), ((g 4), .inl (E.2.1, 8, .inl (y 3))), ((g 5), .inl (E.2.1, 120, .inl (y 4))), ((g 6), .inl (E.2.1, 60, .inl (y 5))), ((g 7), .inl (E.2.1, 180, .inl (y 6)))]) (lv1 := [(0, .ref (g 0)), (1, .int (nI 0))]) (by first | (rw [w_4]; done) | (rw [← w_4]; done) | simp only [w_4]) rfl rfl ?_
      refine Wd.up (W1 := fun k => [((g 0), .inr (6, [.ref (g 1), .ref (g 2), .ref (g 3), .int (nI 4), .ref (g 4), .int (y 7 1), .ref (g 5), .int (y 7 2), .int (y 7 3), .int (y 7 4), .int (y 7 5), .ref (g 6), .ref (g 7), .long z])), ((g 1), .inl (E.2.1, 47, .inl (y 0))), ((g 2), .inl (E.2.1, 47, .inl (y 1))), ((g 3), .inl (E.2.1, 235, .inl (cpA (shS (y 2) 188) 188 (y 1) k))), ((g 4), .inl (E.2.1, 8, .inl (y 3))), ((g 5), .inl (E.2.1, 120, .inl (y 4))), ((g 6), .inl (E.2.1, 60, .inl (y 5))), ((g 7), .inl (E.2.1, 180, .inl (y 6)))]) (LV := fun k => [(0, .ref (g 0)), (1, .int (nI k))]) (fun k => True) 0 47 (by omega) (trivial) (fun hI => ?_) (fun k hk0 hk hI ih => ?_)
      · refine Wd.cast (w1 := [((g 0), .inr (6, [.ref (g 1), .ref (g 2), .ref (g 3), .int (nI 4), .ref (g 4), .int (y 7 1), .ref (g 5), .int (y 7 2), .int (y 7 3), .int (y 7 4), .int (y 7 5), .ref (g 6), .ref (g 7), .long z])), ((g 1), .inl (E.2.1, 47, .inl (y 0))), ((g 2), .inl (E.2.1, 47, .inl (y 1))), ((g 3), .inl (E.2.1, 235, .inl (cpA (shS (y 2) 188) 188 (y 1) 47))), ((g 4), .inl (E.2.1, 8, .inl (y 3))), ((g 5), .inl (E.2.1, 120, .inl (y 4))), ((g 6), .inl (E.2.1, 60, .inl (y 5))), ((g 7), .inl (E.2.1, 180, .inl (y 6)))]) (lv1 := [(0, .ref (g 0)), (1, .int (nI 47))]) rfl rfl rfl ?_
        refine x_iload_n C dX6_save_50 1 rfl ?_
        refine x_bipush (v := 47) C dX6_save_51 (by decide) ?_
        refine x_icmp_ge (tgt := 82) C dX6_save_53 (by decide) (fun c_53 => ?_) (fun c_53 => absurd (by decide) c_53)
        refine x_aload_n C dX6_save_82 0 rfl ?_
        refine x_dup C dX6_save_83 rfl ?_
        refine x_get (ref := "RomSearchBusModel") (v := .int (nI 4)) C inX6 0 3 rfl rfl (by decide) kw_fl_X6_31 rfl rfl dX6_save_84 ?_
        refine x_iconst (v := 1) C dX6_save_87 (by decide) ?_
        refine x_iadd C dX6_save_88 ?_
        refine x_put (ref := "RomSearchBusModel") C inX6 tyX6 tyX6_ok nmX6 0 3 rfl rfl (by decide) kw_fl_X6_31 rfl rfl rfl rfl (Nat.le_of_ble_eq_true rfl) [((g 0), .inr (6, [.ref (g 1), .ref (g 2), .ref (g 3), .int ((nI 4) + 1), .ref (g 4), .int (y 7 1), .ref (g 5), .int (y 7 2), .int (y 7 3), .int (y 7 4), .int (y 7 5), .ref (g 6), .ref (g 7), .long z])), ((g 1), .inl (E.2.1, 47, .inl (y 0))), ((g 2), .inl (E.2.1, 47, .inl (y 1))), ((g 3), .inl (E.2.1, 235, .inl (cpA (shS (y 2) 188) 188 (y 1) 47))), ((g 4), .inl (E.2.1, 8, .inl (y 3))), ((g 5), .inl (E.2.1, 120, .inl (y 4))), ((g 6), .inl (E.2.1, 60, .inl (y 5))), ((g 7), .inl (E.2.1, 180, .inl (y 6)))] rfl dX6_save_89 ?_
        exact x_vret C hr hlocks () trivial (by rw [show svR (y 2) c (y 1) = cpA (shS (y 2) 188) 188 (y 1) 47 from if_pos hc5n, show pN c = 5 from if_pos hc5n]; exact gEq.rf _) dX6_save_92
      · refine Wd.cast (w1 := [((g 0), .inr (6, [.ref (g 1), .ref (g 2), .ref (g 3), .int (nI 4), .ref (g 4), .int (y 7 1), .ref (g 5), .int (y 7 2), .int (y 7 3), .int (y 7 4), .int (y 7 5), .ref (g 6), .ref (g 7), .long z])), ((g 1), .inl (E.2.1, 47, .inl (y 0))), ((g 2), .inl (E.2.1, 47, .inl (y 1))), ((g 3), .inl (E.2.1, 235, .inl (cpA (shS (y 2) 188) 188 (y 1) k))), ((g 4), .inl (E.2.1, 8, .inl (y 3))), ((g 5), .inl (E.2.1, 120, .inl (y 4))), ((g 6), .inl (E.2.1, 60, .inl (y 5))), ((g 7), .inl (E.2.1, 180, .inl (y 6)))]) (lv1 := [(0, .ref (g 0)), (1, .int (nI k))]) rfl rfl rfl ?_
        refine x_iload_n C dX6_save_50 1 rfl ?_
        refine x_bipush (v := 47) C dX6_save_51 (by decide) ?_
        refine x_icmp_ge (tgt := 82) C dX6_save_53 (by decide) (fun c_53 => absurd c_53 (show ¬ nI 47 ≤ nI k from nI_ge hk (by decide))) (fun c_53 => ?_)
        refine x_aload_n C dX6_save_56 0 rfl ?_
        refine x_get (ref := "RomSearchBusModel") (v := .ref (g 3)) C inX6 0 2 rfl rfl (by decide) kw_fl_X6_16 rfl rfl dX6_save_57 ?_
        refine x_bipush (v := 47) C dX6_save_60 (by decide) ?_
        refine x_aload_n C dX6_save_62 0 rfl ?_
        refine x_get (ref := "RomSearchBusModel") (v := .int (nI 4)) C inX6 0 3 rfl rfl (by decide) kw_fl_X6_31 rfl rfl dX6_save_63 ?_
        refine x_imul C dX6_save_66 ?_
        refine x_iload_n C dX6_save_67 1 rfl ?_
        refine x_iadd C dX6_save_68 ?_
        refine x_aload_n C dX6_save_69 0 rfl ?_
        refine x_get (ref := "RomSearchBusModel") (v := .ref (g 2)) C inX6 0 1 rfl rfl (by decide) kw_fl_X6_13 rfl rfl dX6_save_70 ?_
        refine x_iload_n C dX6_save_73 1 rfl ?_
        refine x_ialdN (K := k) (x := (y 1 k)) C 2 rfl rfl (by omega) (by decide) rfl dX6_save_74 ?_
        refine x_iastN (K := (188 + k)) C 3 rfl (ix47 4 k) (by omega) (by decide) [((g 0), .inr (6, [.ref (g 1), .ref (g 2), .ref (g 3), .int (nI 4), .ref (g 4), .int (y 7 1), .ref (g 5), .int (y 7 2), .int (y 7 3), .int (y 7 4), .int (y 7 5), .ref (g 6), .ref (g 7), .long z])), ((g 1), .inl (E.2.1, 47, .inl (y 0))), ((g 2), .inl (E.2.1, 47, .inl (y 1))), ((g 3), .inl (E.2.1, 235, .inl (upd (cpA (shS (y 2) 188) 188 (y 1) k) (188 + k) (y 1 k)))), ((g 4), .inl (E.2.1, 8, .inl (y 3))), ((g 5), .inl (E.2.1, 120, .inl (y 4))), ((g 6), .inl (E.2.1, 60, .inl (y 5))), ((g 7), .inl (E.2.1, 180, .inl (y 6)))] rfl dX6_save_75 ?_
        refine x_iinc (j := 1) (v := (nI (k + 1))) (lv1 := [(1, .int (nI (k + 1))), (0, .ref (g 0))]) C dX6_save_76 rfl (nI_1 _) (by decide) rfl ?_
        refine x_goto (tgt := 50) C dX6_save_79 (by decide) ?_
        refine Wd.locs (lv1 := [(0, .ref (g 0)), (1, .int (nI (k + 1)))]) [1, 0] rfl ?_
        have w_5 : (upd (cpA (shS (y 2) 188) 188 (y 1) k) (188 + k) (y 1 k)) = (cpA (shS (y 2) 188) 188 (y 1) (k + 1)) := (cpA_s _ _ _ _)
        exact Wd.cast (w1 := [((g 0), .inr (6, [.ref (g 1), .ref (g 2), .ref (g 3), .int (nI 4), .ref (g 4), .int (y 7 1), .ref (g 5), .int (y 7 2), .int (y 7 3), .int (y 7 4), .int (y 7 5), .ref (g 6), .ref (g 7), .long z])), ((g 1), .inl (E.2.1, 47, .inl (y 0))), ((g 2), .inl (E.2.1, 47, .inl (y 1))), ((g 3), .inl (E.2.1, 235, .inl (cpA (shS (y 2) 188) 188 (y 1) (k + 1)))), ((g 4), .inl (E.2.1, 8, .inl (y 3))), ((g 5), .inl (E.2.1, 120, .inl (y 4))), ((g 6), .inl (E.2.1, 60, .inl (y 5))), ((g 7), .inl (E.2.1, 180, .inl (y 6)))]) (lv1 := [(0, .ref (g 0)), (1, .int (nI (k + 1)))]) (by first | (rw [w_5]; done) | (rw [← w_5]; done) | simp only [w_5]) rfl rfl (ih trivial)
    · refine Wd.cast (w1 := [((g 0), .inr (6, [.ref (g 1), .ref (g 2), .ref (g 3), .int (y 7 0), .ref (g 4), .int (y 7 1), .ref (g 5), .int (y 7 2), .int (y 7 3), .int (y 7 4), .int (y 7 5), .ref (g 6), .ref (g 7), .long z])), ((g 1), .inl (E.2.1, 47, .inl (y 0))), ((g 2), .inl (E.2.1, 47, .inl (y 1))), ((g 3), .inl (E.2.1, 235, .inl (shS (y 2) k))), ((g 4), .inl (E.2.1, 8, .inl (y 3))), ((g 5), .inl (E.2.1, 120, .inl (y 4))), ((g 6), .inl (E.2.1, 60, .inl (y 5))), ((g 7), .inl (E.2.1, 180, .inl (y 6)))]) (lv1 := [(0, .ref (g 0)), (1, .int (nI k))]) rfl rfl rfl ?_
      refine x_iload_n C dX6_save_10 1 rfl ?_
      refine x_sipush (v := 188) C dX6_save_11 (by decide) ?_
      refine x_icmp_ge (tgt := 38) C dX6_save_14 (by decide) (fun c_14 => absurd c_14 (show ¬ nI 188 ≤ nI k from nI_ge hk (by decide))) (fun c_14 => ?_)
      refine x_aload_n C dX6_save_17 0 rfl ?_
      refine x_get (ref := "RomSearchBusModel") (v := .ref (g 3)) C inX6 0 2 rfl rfl (by decide) kw_fl_X6_16 rfl rfl dX6_save_18 ?_
      refine x_iload_n C dX6_save_21 1 rfl ?_
      refine x_aload_n C dX6_save_22 0 rfl ?_
      refine x_get (ref := "RomSearchBusModel") (v := .ref (g 3)) C inX6 0 2 rfl rfl (by decide) kw_fl_X6_16 rfl rfl dX6_save_23 ?_
      refine x_iload_n C dX6_save_26 1 rfl ?_
      refine x_bipush (v := 47) C dX6_save_27 (by decide) ?_
      refine x_iadd C dX6_save_29 ?_
      refine x_ialdN (K := (k + 47)) (x := ((shS (y 2) k) (k + 47))) C 3 rfl (ixP k 47 rfl) (by omega) (by decide) rfl dX6_save_30 ?_
      refine x_iastN (K := k) C 3 rfl rfl (by omega) (by decide) [((g 0), .inr (6, [.ref (g 1), .ref (g 2), .ref (g 3), .int (y 7 0), .ref (g 4), .int (y 7 1), .ref (g 5), .int (y 7 2), .int (y 7 3), .int (y 7 4), .int (y 7 5), .ref (g 6), .ref (g 7), .long z])), ((g 1), .inl (E.2.1, 47, .inl (y 0))), ((g 2), .inl (E.2.1, 47, .inl (y 1))), ((g 3), .inl (E.2.1, 235, .inl (upd (shS (y 2) k) k ((shS (y 2) k) (k + 47))))), ((g 4), .inl (E.2.1, 8, .inl (y 3))), ((g 5), .inl (E.2.1, 120, .inl (y 4))), ((g 6), .inl (E.2.1, 60, .inl (y 5))), ((g 7), .inl (E.2.1, 180, .inl (y 6)))] rfl dX6_save_31 ?_
      refine x_iinc (j := 1) (v := (nI (k + 1))) (lv1 := [(1, .int (nI (k + 1))), (0, .ref (g 0))]) C dX6_save_32 rfl (nI_1 _) (by decide) rfl ?_
      refine x_goto (tgt := 10) C dX6_save_35 (by decide) ?_
      refine Wd.locs (lv1 := [(0, .ref (g 0)), (1, .int (nI (k + 1)))]) [1, 0] rfl ?_
      have w_6 : (upd (shS (y 2) k) k ((shS (y 2) k) (k + 47))) = (shS (y 2) (k + 1)) := (shS_s _ _)
      exact Wd.cast (w1 := [((g 0), .inr (6, [.ref (g 1), .ref (g 2), .ref (g 3), .int (y 7 0), .ref (g 4), .int (y 7 1), .ref (g 5), .int (y 7 2), .int (y 7 3), .int (y 7 4), .int (y 7 5), .ref (g 6), .ref (g 7), .long z])), ((g 1), .inl (E.2.1, 47, .inl (y 0))), ((g 2), .inl (E.2.1, 47, .inl (y 1))), ((g 3), .inl (E.2.1, 235, .inl (shS (y 2) (k + 1)))), ((g 4), .inl (E.2.1, 8, .inl (y 3))), ((g 5), .inl (E.2.1, 120, .inl (y 4))), ((g 6), .inl (E.2.1, 60, .inl (y 5))), ((g 7), .inl (E.2.1, 180, .inl (y 6)))]) (lv1 := [(0, .ref (g 0)), (1, .int (nI (k + 1)))]) (by first | (rw [w_6]; done) | (rw [← w_6]; done) | simp only [w_6]) rfl rfl (ih trivial)
def mUndo (y : Nat → Nat → Int32) (c : Nat) : Nat → Nat → Int32 := if c = 0 then (rs y 3 (eK (-9)) ((y 3 (eK (-9))) + 1)) else rs (va_up y 0 (fun j => y 2 (47 * (c - 1) + j))) 7 0 (nI (c - 1))
set_option maxHeartbeats 4000000 in
set_option maxRecDepth 100000 in
theorem c_X6_undo (l : Launch) (E : gE) (g : Nat → Nat) (y : Nat → Nat → Int32) (z : Int64) (c : Nat) (hc : y 7 0 = nI c) (h5 : c ≤ 5) : CtI l E yX6_undo prog_8_method_9_code 2 (some .int) 1 21 0 0 [.ref (g 0)] [((g 0), .inr (6, [.ref (g 1), .ref (g 2), .ref (g 3), .int (y 7 0), .ref (g 4), .int (y 7 1), .ref (g 5), .int (y 7 2), .int (y 7 3), .int (y 7 4), .int (y 7 5), .ref (g 6), .ref (g 7), .long z])), ((g 1), .inl (E.2.1, 47, .inl (y 0))), ((g 2), .inl (E.2.1, 47, .inl (y 1))), ((g 3), .inl (E.2.1, 235, .inl (y 2))), ((g 4), .inl (E.2.1, 8, .inl (y 3))), ((g 5), .inl (E.2.1, 120, .inl (y 4))), ((g 6), .inl (E.2.1, 60, .inl (y 5))), ((g 7), .inl (E.2.1, 180, .inl (y 6)))] (fun r (_ : Unit) => r = (uR c)) (fun _ => [((g 0), .inr (6, [.ref (g 1), .ref (g 2), .ref (g 3), .int ((mUndo y c) 7 0), .ref (g 4), .int ((mUndo y c) 7 1), .ref (g 5), .int ((mUndo y c) 7 2), .int ((mUndo y c) 7 3), .int ((mUndo y c) 7 4), .int ((mUndo y c) 7 5), .ref (g 6), .ref (g 7), .long z])), ((g 1), .inl (E.2.1, 47, .inl ((mUndo y c) 0))), ((g 2), .inl (E.2.1, 47, .inl ((mUndo y c) 1))), ((g 3), .inl (E.2.1, 235, .inl ((mUndo y c) 2))), ((g 4), .inl (E.2.1, 8, .inl ((mUndo y c) 3))), ((g 5), .inl (E.2.1, 120, .inl ((mUndo y c) 4))), ((g 6), .inl (E.2.1, 60, .inl ((mUndo y c) 5))), ((g 7), .inl (E.2.1, 180, .inl ((mUndo y c) 6)))]) := by
  refine CtI.start (by decide) (Nat.le_of_ble_eq_true rfl) ?_
  intro p_ e_ s_ m_ below_ meth_ c_ A_ C hr hlocks hnm
  refine Wd.cast (lv1 := [(0, .ref (g 0))]) rfl rfl rfl ?_
  refine x_aload_n C dX6_undo_0 0 rfl ?_
  refine x_get (ref := "RomSearchBusModel") (v := .int (y 7 0)) C inX6 0 3 rfl rfl (by decide) kw_fl_X6_31 rfl rfl dX6_undo_1 ?_
  refine x_if_ne (tgt := 14) C dX6_undo_4 (by decide) (fun c_4 => ?_) (fun c_4 => ?_)
  · refine x_aload_n C dX6_undo_14 0 rfl ?_
    refine x_dup C dX6_undo_15 rfl ?_
    refine x_get (ref := "RomSearchBusModel") (v := .int (y 7 0)) C inX6 0 3 rfl rfl (by decide) kw_fl_X6_31 rfl rfl dX6_undo_16 ?_
    refine x_iconst (v := 1) C dX6_undo_19 (by decide) ?_
    refine x_isub C dX6_undo_20 ?_
    refine x_put (ref := "RomSearchBusModel") C inX6 tyX6 tyX6_ok nmX6 0 3 rfl rfl (by decide) kw_fl_X6_31 rfl rfl rfl rfl (Nat.le_of_ble_eq_true rfl) [((g 0), .inr (6, [.ref (g 1), .ref (g 2), .ref (g 3), .int ((y 7 0) - 1), .ref (g 4), .int (y 7 1), .ref (g 5), .int (y 7 2), .int (y 7 3), .int (y 7 4), .int (y 7 5), .ref (g 6), .ref (g 7), .long z])), ((g 1), .inl (E.2.1, 47, .inl (y 0))), ((g 2), .inl (E.2.1, 47, .inl (y 1))), ((g 3), .inl (E.2.1, 235, .inl (y 2))), ((g 4), .inl (E.2.1, 8, .inl (y 3))), ((g 5), .inl (E.2.1, 120, .inl (y 4))), ((g 6), .inl (E.2.1, 60, .inl (y 5))), ((g 7), .inl (E.2.1, 180, .inl (y 6)))] rfl dX6_undo_21 ?_
    refine x_iconst (v := 0) C dX6_undo_24 (by decide) ?_
    refine x_istore_n (lv1 := [(1, .int 0), (0, .ref (g 0))]) C dX6_undo_25 (by decide) rfl ?_
    have hc0 : ¬ c = 0 := fun z0 => c_4 (by rw [hc, z0]; rfl)
    refine Wd.cast (w1 := [((g 0), .inr (6, [.ref (g 1), .ref (g 2), .ref (g 3), .int (nI (c - 1)), .ref (g 4), .int (y 7 1), .ref (g 5), .int (y 7 2), .int (y 7 3), .int (y 7 4), .int (y 7 5), .ref (g 6), .ref (g 7), .long z])), ((g 1), .inl (E.2.1, 47, .inl (y 0))), ((g 2), .inl (E.2.1, 47, .inl (y 1))), ((g 3), .inl (E.2.1, 235, .inl (y 2))), ((g 4), .inl (E.2.1, 8, .inl (y 3))), ((g 5), .inl (E.2.1, 120, .inl (y 4))), ((g 6), .inl (E.2.1, 60, .inl (y 5))), ((g 7), .inl (E.2.1, 180, .inl (y 6)))]) (lv1 := [(1, .int 0), (0, .ref (g 0))]) (by rw [hc, nI_m1 (by omega)]) rfl rfl ?_
    refine Wd.locs (lv1 := [(0, .ref (g 0)), (1, .int 0)]) [1, 0] rfl ?_
    have w_1 : (y 0) = (cpK (fun j => y 2 (47 * (c - 1) + j)) (y 0) 0) := (cpK_0 _ _)
    refine Wd.cast (w1 := [((g 0), .inr (6, [.ref (g 1), .ref (g 2), .ref (g 3), .int (nI (c - 1)), .ref (g 4), .int (y 7 1), .ref (g 5), .int (y 7 2), .int (y 7 3), .int (y 7 4), .int (y 7 5), .ref (g 6), .ref (g 7), .long z])), ((g 1), .inl (E.2.1, 47, .inl (cpK (fun j => y 2 (47 * (c - 1) + j)) (y 0) 0))), ((g 2), .inl (E.2.1, 47, .inl (y 1))), ((g 3), .inl (E.2.1, 235, .inl (y 2))), ((g 4), .inl (E.2.1, 8, .inl (y 3))), ((g 5), .inl (E.2.1, 120, .inl (y 4))), ((g 6), .inl (E.2.1, 60, .inl (y 5))), ((g 7), .inl (E.2.1, 180, .inl (y 6)))]) (lv1 := [(0, .ref (g 0)), (1, .int (nI 0))]) (by first | (rw [w_1]; done) | (rw [← w_1]; done) | simp only [w_1]) rfl rfl ?_
    refine Wd.up (W1 := fun k => [((g 0), .inr (6, [.ref (g 1), .ref (g 2), .ref (g 3), .int (nI (c - 1)), .ref (g 4), .int (y 7 1), .ref (g 5), .int (y 7 2), .int (y 7 3), .int (y 7 4), .int (y 7 5), .ref (g 6), .ref (g 7), .long z])), ((g 1), .inl (E.2.1, 47, .inl (cpK (fun j => y 2 (47 * (c - 1) + j)) (y 0) k))), ((g 2), .inl (E.2.1, 47, .inl (y 1))), ((g 3), .inl (E.2.1, 235, .inl (y 2))), ((g 4), .inl (E.2.1, 8, .inl (y 3))), ((g 5), .inl (E.2.1, 120, .inl (y 4))), ((g 6), .inl (E.2.1, 60, .inl (y 5))), ((g 7), .inl (E.2.1, 180, .inl (y 6)))]) (LV := fun k => [(0, .ref (g 0)), (1, .int (nI k))]) (fun k => True) 0 47 (by omega) (trivial) (fun hI => ?_) (fun k hk0 hk hI ih => ?_)
    · refine Wd.cast (w1 := [((g 0), .inr (6, [.ref (g 1), .ref (g 2), .ref (g 3), .int (nI (c - 1)), .ref (g 4), .int (y 7 1), .ref (g 5), .int (y 7 2), .int (y 7 3), .int (y 7 4), .int (y 7 5), .ref (g 6), .ref (g 7), .long z])), ((g 1), .inl (E.2.1, 47, .inl (cpK (fun j => y 2 (47 * (c - 1) + j)) (y 0) 47))), ((g 2), .inl (E.2.1, 47, .inl (y 1))), ((g 3), .inl (E.2.1, 235, .inl (y 2))), ((g 4), .inl (E.2.1, 8, .inl (y 3))), ((g 5), .inl (E.2.1, 120, .inl (y 4))), ((g 6), .inl (E.2.1, 60, .inl (y 5))), ((g 7), .inl (E.2.1, 180, .inl (y 6)))]) (lv1 := [(0, .ref (g 0)), (1, .int (nI 47))]) rfl rfl rfl ?_
      refine x_iload_n C dX6_undo_26 1 rfl ?_
      refine x_bipush (v := 47) C dX6_undo_27 (by decide) ?_
      refine x_icmp_ge (tgt := 58) C dX6_undo_29 (by decide) (fun c_29 => ?_) (fun c_29 => absurd (by decide) c_29)
      refine x_aload_n C dX6_undo_58 0 rfl ?_
      refine x_get (ref := "RomSearchBusModel") (v := .int (nI (c - 1))) C inX6 0 3 rfl rfl (by decide) kw_fl_X6_31 rfl rfl dX6_undo_59 ?_
      have e1 : mUndo y c = (rs (va_up y 0 (fun j => y 2 (47 * (c - 1) + j))) 7 0 (nI (c - 1))) := if_neg hc0
      exact x_iret C hr hlocks rfl () (by rw [show uR c = nI (c - 1) from if_neg hc0]) (by rw [e1]; exact ⟨rfl, Or.inl rfl, ⟨rfl, Or.inr (Or.inl ⟨_, _, _, _, rfl, rfl, cpK_all⟩), ⟨rfl, Or.inl rfl, ⟨rfl, Or.inl rfl, ⟨rfl, Or.inl rfl, ⟨rfl, Or.inl rfl, ⟨rfl, Or.inl rfl, ⟨rfl, Or.inl rfl, trivial⟩⟩⟩⟩⟩⟩⟩⟩) dX6_undo_62
    · refine Wd.cast (w1 := [((g 0), .inr (6, [.ref (g 1), .ref (g 2), .ref (g 3), .int (nI (c - 1)), .ref (g 4), .int (y 7 1), .ref (g 5), .int (y 7 2), .int (y 7 3), .int (y 7 4), .int (y 7 5), .ref (g 6), .ref (g 7), .long z])), ((g 1), .inl (E.2.1, 47, .inl (cpK (fun j => y 2 (47 * (c - 1) + j)) (y 0) k))), ((g 2), .inl (E.2.1, 47, .inl (y 1))), ((g 3), .inl (E.2.1, 235, .inl (y 2))), ((g 4), .inl (E.2.1, 8, .inl (y 3))), ((g 5), .inl (E.2.1, 120, .inl (y 4))), ((g 6), .inl (E.2.1, 60, .inl (y 5))), ((g 7), .inl (E.2.1, 180, .inl (y 6)))]) (lv1 := [(0, .ref (g 0)), (1, .int (nI k))]) rfl rfl rfl ?_
      refine x_iload_n C dX6_undo_26 1 rfl ?_
      refine x_bipush (v := 47) C dX6_undo_27 (by decide) ?_
      refine x_icmp_ge (tgt := 58) C dX6_undo_29 (by decide) (fun c_29 => absurd c_29 (show ¬ nI 47 ≤ nI k from nI_ge hk (by decide))) (fun c_29 => ?_)
      refine x_aload_n C dX6_undo_32 0 rfl ?_
      refine x_get (ref := "RomSearchBusModel") (v := .ref (g 1)) C inX6 0 0 rfl rfl (by decide) kw_fl_X6_7 rfl rfl dX6_undo_33 ?_
      refine x_iload_n C dX6_undo_36 1 rfl ?_
      refine x_aload_n C dX6_undo_37 0 rfl ?_
      refine x_get (ref := "RomSearchBusModel") (v := .ref (g 3)) C inX6 0 2 rfl rfl (by decide) kw_fl_X6_16 rfl rfl dX6_undo_38 ?_
      refine x_bipush (v := 47) C dX6_undo_41 (by decide) ?_
      refine x_aload_n C dX6_undo_43 0 rfl ?_
      refine x_get (ref := "RomSearchBusModel") (v := .int (nI (c - 1))) C inX6 0 3 rfl rfl (by decide) kw_fl_X6_31 rfl rfl dX6_undo_44 ?_
      refine x_imul C dX6_undo_47 ?_
      refine x_iload_n C dX6_undo_48 1 rfl ?_
      refine x_iadd C dX6_undo_49 ?_
      refine x_ialdN (K := (47 * (c - 1) + k)) (x := (y 2 (47 * (c - 1) + k))) C 3 rfl (ix47 (c - 1) k) (by omega) (by decide) rfl dX6_undo_50 ?_
      refine x_iastN (K := k) C 1 rfl rfl (by omega) (by decide) [((g 0), .inr (6, [.ref (g 1), .ref (g 2), .ref (g 3), .int (nI (c - 1)), .ref (g 4), .int (y 7 1), .ref (g 5), .int (y 7 2), .int (y 7 3), .int (y 7 4), .int (y 7 5), .ref (g 6), .ref (g 7), .long z])), ((g 1), .inl (E.2.1, 47, .inl (upd (cpK (fun j => y 2 (47 * (c - 1) + j)) (y 0) k) k (y 2 (47 * (c - 1) + k))))), ((g 2), .inl (E.2.1, 47, .inl (y 1))), ((g 3), .inl (E.2.1, 235, .inl (y 2))), ((g 4), .inl (E.2.1, 8, .inl (y 3))), ((g 5), .inl (E.2.1, 120, .inl (y 4))), ((g 6), .inl (E.2.1, 60, .inl (y 5))), ((g 7), .inl (E.2.1, 180, .inl (y 6)))] rfl dX6_undo_51 ?_
      refine x_iinc (j := 1) (v := (nI (k + 1))) (lv1 := [(1, .int (nI (k + 1))), (0, .ref (g 0))]) C dX6_undo_52 rfl (nI_1 _) (by decide) rfl ?_
      refine x_goto (tgt := 26) C dX6_undo_55 (by decide) ?_
      refine Wd.locs (lv1 := [(0, .ref (g 0)), (1, .int (nI (k + 1)))]) [1, 0] rfl ?_
      have w_2 : (upd (cpK (fun j => y 2 (47 * (c - 1) + j)) (y 0) k) k (y 2 (47 * (c - 1) + k))) = (cpK (fun j => y 2 (47 * (c - 1) + j)) (y 0) (k + 1)) := (cpK_s _ _ _)
      exact Wd.cast (w1 := [((g 0), .inr (6, [.ref (g 1), .ref (g 2), .ref (g 3), .int (nI (c - 1)), .ref (g 4), .int (y 7 1), .ref (g 5), .int (y 7 2), .int (y 7 3), .int (y 7 4), .int (y 7 5), .ref (g 6), .ref (g 7), .long z])), ((g 1), .inl (E.2.1, 47, .inl (cpK (fun j => y 2 (47 * (c - 1) + j)) (y 0) (k + 1)))), ((g 2), .inl (E.2.1, 47, .inl (y 1))), ((g 3), .inl (E.2.1, 235, .inl (y 2))), ((g 4), .inl (E.2.1, 8, .inl (y 3))), ((g 5), .inl (E.2.1, 120, .inl (y 4))), ((g 6), .inl (E.2.1, 60, .inl (y 5))), ((g 7), .inl (E.2.1, 180, .inl (y 6)))]) (lv1 := [(0, .ref (g 0)), (1, .int (nI (k + 1)))]) (by first | (rw [w_2]; done) | (rw [← w_2]; done) | simp only [w_2]) rfl rfl (ih trivial)
  · refine x_aload_n C dX6_undo_7 0 rfl ?_
    refine x_bipush (v := (-9)) C dX6_undo_8 (by decide) ?_
    refine x_callVI (wc := [((g 0), .inr (6, [.ref (g 1), .ref (g 2), .ref (g 3), .int (y 7 0), .ref (g 4), .int (y 7 1), .ref (g 5), .int (y 7 2), .int (y 7 3), .int (y 7 4), .int (y 7 5), .ref (g 6), .ref (g 7), .long z])), ((g 1), .inl (E.2.1, 47, .inl (y 0))), ((g 2), .inl (E.2.1, 47, .inl (y 1))), ((g 3), .inl (E.2.1, 235, .inl (y 2))), ((g 4), .inl (E.2.1, 8, .inl (y 3))), ((g 5), .inl (E.2.1, 120, .inl (y 4))), ((g 6), .inl (E.2.1, 60, .inl (y 5))), ((g 7), .inl (E.2.1, 180, .inl (y 6)))]) (wr := []) (As := [.int (-9)]) (rest := []) (ci := 6) (q0 := 0) C (c_X6_counted l E g y z (-9) (by decide)) (gWV C kw_ml_X6_43 kw_im_X6_counted kw_sel_X6_counted kw_ini_X6 kw_code_X6_counted ga_X6_counted ⟨Nat.le_of_ble_eq_true rfl, Nat.le_of_ble_eq_true rfl⟩) rfl rfl [0, 1, 2, 3, 4, 5, 6, 7] [] [0, 1, 2, 3, 4, 5, 6, 7] rfl rfl rfl rfl (by decide) (fun _ => [((g 0), .inr (6, [.ref (g 1), .ref (g 2), .ref (g 3), .int (y 7 0), .ref (g 4), .int (y 7 1), .ref (g 5), .int (y 7 2), .int (y 7 3), .int (y 7 4), .int (y 7 5), .ref (g 6), .ref (g 7), .long z])), ((g 1), .inl (E.2.1, 47, .inl (y 0))), ((g 2), .inl (E.2.1, 47, .inl (y 1))), ((g 3), .inl (E.2.1, 235, .inl (y 2))), ((g 4), .inl (E.2.1, 8, .inl (upd (y 3) (eK (-9)) ((y 3 (eK (-9))) + 1)))), ((g 5), .inl (E.2.1, 120, .inl (y 4))), ((g 6), .inl (E.2.1, 60, .inl (y 5))), ((g 7), .inl (E.2.1, 180, .inl (y 6)))]) rfl (fun _ => rfl) rfl (Nat.le_of_ble_eq_true rfl) ⟨Nat.le_of_ble_eq_true rfl, Nat.le_of_ble_eq_true rfl⟩ rfl dX6_undo_10 (fun r_3 _ e_4 => ?_)
    subst e_4
    have hc0 : c = 0 := (nI_zero (by omega)).mp (hc.symm.trans c_4)
    exact x_iret C hr hlocks rfl () (by rw [show uR c = (-9) from if_pos hc0]) (by rw [show mUndo y c = (rs y 3 (eK (-9)) ((y 3 (eK (-9))) + 1)) from if_pos hc0]; exact gEq.rf _) dX6_undo_13
set_option maxHeartbeats 4000000 in
set_option maxRecDepth 100000 in
theorem c_X6_isDevice (l : Launch) (E : gE) (g : Nat → Nat) (y : Nat → Nat → Int32) (z : Int64) (q : Int32)  : CtI l E yX6_isDevice prog_8_method_12_code 2 (some .boolean) 1 22 0 0 [.ref (g 0), .int q] [((g 0), .inr (6, [.ref (g 1), .ref (g 2), .ref (g 3), .int (y 7 0), .ref (g 4), .int (y 7 1), .ref (g 5), .int (y 7 2), .int (y 7 3), .int (y 7 4), .int (y 7 5), .ref (g 6), .ref (g 7), .long z])), ((g 1), .inl (E.2.1, 47, .inl (y 0))), ((g 2), .inl (E.2.1, 47, .inl (y 1))), ((g 3), .inl (E.2.1, 235, .inl (y 2))), ((g 4), .inl (E.2.1, 8, .inl (y 3))), ((g 5), .inl (E.2.1, 120, .inl (y 4))), ((g 6), .inl (E.2.1, 60, .inl (y 5))), ((g 7), .inl (E.2.1, 180, .inl (y 6)))] (fun r (_ : Unit) => r = (if 0 ≤ q ∧ q ≤ (y 0 0) - 1 then 1 else 0)) (fun _ => [((g 0), .inr (6, [.ref (g 1), .ref (g 2), .ref (g 3), .int (y 7 0), .ref (g 4), .int (y 7 1), .ref (g 5), .int (y 7 2), .int (y 7 3), .int (y 7 4), .int (y 7 5), .ref (g 6), .ref (g 7), .long z])), ((g 1), .inl (E.2.1, 47, .inl (y 0))), ((g 2), .inl (E.2.1, 47, .inl (y 1))), ((g 3), .inl (E.2.1, 235, .inl (y 2))), ((g 4), .inl (E.2.1, 8, .inl (y 3))), ((g 5), .inl (E.2.1, 120, .inl (y 4))), ((g 6), .inl (E.2.1, 60, .inl (y 5))), ((g 7), .inl (E.2.1, 180, .inl (y 6)))]) := by
  refine CtI.start (by decide) (Nat.le_of_ble_eq_true rfl) ?_
  intro p_ e_ s_ m_ below_ meth_ c_ A_ C hr hlocks hnm
  refine Wd.cast (lv1 := [(0, .ref (g 0)), (1, .int q)]) rfl rfl rfl ?_
  refine x_iload_n C dX6_isDevice_0 1 rfl ?_
  refine x_iconst (v := 0) C dX6_isDevice_1 (by decide) ?_
  refine x_aload_n C dX6_isDevice_2 0 rfl ?_
  refine x_get (ref := "RomSearchBusModel") (v := .ref (g 1)) C inX6 0 0 rfl rfl (by decide) kw_fl_X6_7 rfl rfl dX6_isDevice_3 ?_
  refine x_iconst (v := 0) C dX6_isDevice_6 (by decide) ?_
  refine x_ialdN (K := 0) (x := (y 0 0)) C 1 rfl (by decide) (by decide) (by decide) rfl dX6_isDevice_7 ?_
  refine x_iconst (v := 1) C dX6_isDevice_8 (by decide) ?_
  refine x_isub C dX6_isDevice_9 ?_
  refine x_callSI (wc := []) (wr := [((g 0), .inr (6, [.ref (g 1), .ref (g 2), .ref (g 3), .int (y 7 0), .ref (g 4), .int (y 7 1), .ref (g 5), .int (y 7 2), .int (y 7 3), .int (y 7 4), .int (y 7 5), .ref (g 6), .ref (g 7), .long z])), ((g 1), .inl (E.2.1, 47, .inl (y 0))), ((g 2), .inl (E.2.1, 47, .inl (y 1))), ((g 3), .inl (E.2.1, 235, .inl (y 2))), ((g 4), .inl (E.2.1, 8, .inl (y 3))), ((g 5), .inl (E.2.1, 120, .inl (y 4))), ((g 6), .inl (E.2.1, 60, .inl (y 5))), ((g 7), .inl (E.2.1, 180, .inl (y 6)))]) (As := [.int q, .int 0, .int ((y 0 0) - 1)]) (rest := []) C (c_X6_in l E q 0 ((y 0 0) - 1) ) (gWS C kw_ml_X6_35 kw_st_X6_in kw_ini_X6 kw_code_X6_in ga_X6_in ⟨Nat.le_of_ble_eq_true rfl, Nat.le_of_ble_eq_true rfl⟩) [] [0, 1, 2, 3, 4, 5, 6, 7] [0, 1, 2, 3, 4, 5, 6, 7] rfl rfl rfl rfl (by decide) (fun _ => [((g 0), .inr (6, [.ref (g 1), .ref (g 2), .ref (g 3), .int (y 7 0), .ref (g 4), .int (y 7 1), .ref (g 5), .int (y 7 2), .int (y 7 3), .int (y 7 4), .int (y 7 5), .ref (g 6), .ref (g 7), .long z])), ((g 1), .inl (E.2.1, 47, .inl (y 0))), ((g 2), .inl (E.2.1, 47, .inl (y 1))), ((g 3), .inl (E.2.1, 235, .inl (y 2))), ((g 4), .inl (E.2.1, 8, .inl (y 3))), ((g 5), .inl (E.2.1, 120, .inl (y 4))), ((g 6), .inl (E.2.1, 60, .inl (y 5))), ((g 7), .inl (E.2.1, 180, .inl (y 6)))]) rfl (fun _ => rfl) rfl (Nat.le_of_ble_eq_true rfl) ⟨Nat.le_of_ble_eq_true rfl, Nat.le_of_ble_eq_true rfl⟩ rfl dX6_isDevice_10 (fun r_1 _ e_2 => ?_)
  subst e_2
  exact x_iret C hr hlocks (by split <;> rfl) () rfl (gEq.rf _) dX6_isDevice_13
set_option maxHeartbeats 4000000 in
set_option maxRecDepth 100000 in
theorem c_X6_of (l : Launch) (E : gE) (g : Nat → Nat) (y : Nat → Nat → Int32) (z : Int64) (q : Int32) (w : Int32) (K : Nat) (J : Nat) (hi : q = nI K) (hj : w = nI J) (hK : 1 + 4 * K + J < 47) : CtI l E yX6_of prog_8_method_13_code 3 (some .int) 0 0 0 0 [.ref (g 0), .int q, .int w] [((g 0), .inr (6, [.ref (g 1), .ref (g 2), .ref (g 3), .int (y 7 0), .ref (g 4), .int (y 7 1), .ref (g 5), .int (y 7 2), .int (y 7 3), .int (y 7 4), .int (y 7 5), .ref (g 6), .ref (g 7), .long z])), ((g 1), .inl (E.2.1, 47, .inl (y 0))), ((g 2), .inl (E.2.1, 47, .inl (y 1))), ((g 3), .inl (E.2.1, 235, .inl (y 2))), ((g 4), .inl (E.2.1, 8, .inl (y 3))), ((g 5), .inl (E.2.1, 120, .inl (y 4))), ((g 6), .inl (E.2.1, 60, .inl (y 5))), ((g 7), .inl (E.2.1, 180, .inl (y 6)))] (fun r (_ : Unit) => r = (y 0 (1 + 4 * K + J))) (fun _ => [((g 0), .inr (6, [.ref (g 1), .ref (g 2), .ref (g 3), .int (y 7 0), .ref (g 4), .int (y 7 1), .ref (g 5), .int (y 7 2), .int (y 7 3), .int (y 7 4), .int (y 7 5), .ref (g 6), .ref (g 7), .long z])), ((g 1), .inl (E.2.1, 47, .inl (y 0))), ((g 2), .inl (E.2.1, 47, .inl (y 1))), ((g 3), .inl (E.2.1, 235, .inl (y 2))), ((g 4), .inl (E.2.1, 8, .inl (y 3))), ((g 5), .inl (E.2.1, 120, .inl (y 4))), ((g 6), .inl (E.2.1, 60, .inl (y 5))), ((g 7), .inl (E.2.1, 180, .inl (y 6)))]) := by
  refine CtI.start (by decide) (Nat.le_of_ble_eq_true rfl) ?_
  intro p_ e_ s_ m_ below_ meth_ c_ A_ C hr hlocks hnm
  refine Wd.cast (lv1 := [(0, .ref (g 0)), (1, .int q), (2, .int w)]) rfl rfl rfl ?_
  refine x_aload_n C dX6_of_0 0 rfl ?_
  refine x_get (ref := "RomSearchBusModel") (v := .ref (g 1)) C inX6 0 0 rfl rfl (by decide) kw_fl_X6_7 rfl rfl dX6_of_1 ?_
  refine x_iconst (v := 1) C dX6_of_4 (by decide) ?_
  refine x_iconst (v := 4) C dX6_of_5 (by decide) ?_
  refine x_iload_n C dX6_of_6 1 rfl ?_
  refine x_imul C dX6_of_7 ?_
  refine x_iadd C dX6_of_8 ?_
  refine x_iload_n C dX6_of_9 2 rfl ?_
  refine x_iadd C dX6_of_10 ?_
  refine x_ialdN (K := (1 + 4 * K + J)) (x := (y 0 (1 + 4 * K + J))) C 1 rfl (by rw [hi, hj]; exact ixD K J) (by omega) (by decide) rfl dX6_of_11 ?_
  exact x_iret C hr hlocks rfl () rfl (gEq.rf _) dX6_of_12
theorem absI_mag (v : Int32) : f_X6_magnitude_r v = absI v := rfl
set_option maxHeartbeats 4000000 in
set_option maxRecDepth 100000 in
theorem c_X6_alarmed (l : Launch) (E : gE) (g : Nat → Nat) (y : Nat → Nat → Int32) (z : Int64) (q : Int32) (K : Nat) (hi : q = nI K) (hK : K < 8) : CtI l E yX6_alarmed prog_8_method_15_code 4 (some .int) 1 22 0 0 [.ref (g 0), .int q] [((g 0), .inr (6, [.ref (g 1), .ref (g 2), .ref (g 3), .int (y 7 0), .ref (g 4), .int (y 7 1), .ref (g 5), .int (y 7 2), .int (y 7 3), .int (y 7 4), .int (y 7 5), .ref (g 6), .ref (g 7), .long z])), ((g 1), .inl (E.2.1, 47, .inl (y 0))), ((g 2), .inl (E.2.1, 47, .inl (y 1))), ((g 3), .inl (E.2.1, 235, .inl (y 2))), ((g 4), .inl (E.2.1, 8, .inl (y 3))), ((g 5), .inl (E.2.1, 120, .inl (y 4))), ((g 6), .inl (E.2.1, 60, .inl (y 5))), ((g 7), .inl (E.2.1, 180, .inl (y 6)))] (fun r (_ : Unit) => r = (if alarmB (y 0 (1 + 4 * K + 1)) (y 0 (1 + 4 * K + 2)) (y 0 (1 + 4 * K + 3)) = true then 1 else 0)) (fun _ => [((g 0), .inr (6, [.ref (g 1), .ref (g 2), .ref (g 3), .int (y 7 0), .ref (g 4), .int (y 7 1), .ref (g 5), .int (y 7 2), .int (y 7 3), .int (y 7 4), .int (y 7 5), .ref (g 6), .ref (g 7), .long z])), ((g 1), .inl (E.2.1, 47, .inl (y 0))), ((g 2), .inl (E.2.1, 47, .inl (y 1))), ((g 3), .inl (E.2.1, 235, .inl (y 2))), ((g 4), .inl (E.2.1, 8, .inl (y 3))), ((g 5), .inl (E.2.1, 120, .inl (y 4))), ((g 6), .inl (E.2.1, 60, .inl (y 5))), ((g 7), .inl (E.2.1, 180, .inl (y 6)))]) := by
  refine CtI.start (by decide) (Nat.le_of_ble_eq_true rfl) ?_
  intro p_ e_ s_ m_ below_ meth_ c_ A_ C hr hlocks hnm
  refine Wd.cast (lv1 := [(0, .ref (g 0)), (1, .int q)]) rfl rfl rfl ?_
  refine x_aload_n C dX6_alarmed_0 0 rfl ?_
  refine x_iload_n C dX6_alarmed_1 1 rfl ?_
  refine x_iconst (v := 1) C dX6_alarmed_2 (by decide) ?_
  refine x_callVI (wc := [((g 0), .inr (6, [.ref (g 1), .ref (g 2), .ref (g 3), .int (y 7 0), .ref (g 4), .int (y 7 1), .ref (g 5), .int (y 7 2), .int (y 7 3), .int (y 7 4), .int (y 7 5), .ref (g 6), .ref (g 7), .long z])), ((g 1), .inl (E.2.1, 47, .inl (y 0))), ((g 2), .inl (E.2.1, 47, .inl (y 1))), ((g 3), .inl (E.2.1, 235, .inl (y 2))), ((g 4), .inl (E.2.1, 8, .inl (y 3))), ((g 5), .inl (E.2.1, 120, .inl (y 4))), ((g 6), .inl (E.2.1, 60, .inl (y 5))), ((g 7), .inl (E.2.1, 180, .inl (y 6)))]) (wr := []) (As := [.int q, .int 1]) (rest := []) (ci := 6) (q0 := 0) C (c_X6_of l E g y z q 1 K 1 hi rfl (by omega)) (gWV C kw_ml_X6_53 kw_im_X6_of kw_sel_X6_of kw_ini_X6 kw_code_X6_of ga_X6_of ⟨Nat.le_of_ble_eq_true rfl, Nat.le_of_ble_eq_true rfl⟩) rfl rfl [0, 1, 2, 3, 4, 5, 6, 7] [] [0, 1, 2, 3, 4, 5, 6, 7] rfl rfl rfl rfl (by decide) (fun _ => [((g 0), .inr (6, [.ref (g 1), .ref (g 2), .ref (g 3), .int (y 7 0), .ref (g 4), .int (y 7 1), .ref (g 5), .int (y 7 2), .int (y 7 3), .int (y 7 4), .int (y 7 5), .ref (g 6), .ref (g 7), .long z])), ((g 1), .inl (E.2.1, 47, .inl (y 0))), ((g 2), .inl (E.2.1, 47, .inl (y 1))), ((g 3), .inl (E.2.1, 235, .inl (y 2))), ((g 4), .inl (E.2.1, 8, .inl (y 3))), ((g 5), .inl (E.2.1, 120, .inl (y 4))), ((g 6), .inl (E.2.1, 60, .inl (y 5))), ((g 7), .inl (E.2.1, 180, .inl (y 6)))]) rfl (fun _ => rfl) rfl (Nat.le_of_ble_eq_true rfl) ⟨Nat.le_of_ble_eq_true rfl, Nat.le_of_ble_eq_true rfl⟩ rfl dX6_alarmed_3 (fun r_1 _ e_2 => ?_)
  subst e_2
  refine x_istore_n (lv1 := [(2, .int (y 0 (1 + 4 * K + 1))), (0, .ref (g 0)), (1, .int q)]) C dX6_alarmed_6 (by decide) rfl ?_
  refine x_aload_n C dX6_alarmed_7 1 rfl ?_
  refine x_iload_n C dX6_alarmed_8 2 rfl ?_
  refine x_iconst (v := 3) C dX6_alarmed_9 (by decide) ?_
  refine x_callVI (wc := [((g 0), .inr (6, [.ref (g 1), .ref (g 2), .ref (g 3), .int (y 7 0), .ref (g 4), .int (y 7 1), .ref (g 5), .int (y 7 2), .int (y 7 3), .int (y 7 4), .int (y 7 5), .ref (g 6), .ref (g 7), .long z])), ((g 1), .inl (E.2.1, 47, .inl (y 0))), ((g 2), .inl (E.2.1, 47, .inl (y 1))), ((g 3), .inl (E.2.1, 235, .inl (y 2))), ((g 4), .inl (E.2.1, 8, .inl (y 3))), ((g 5), .inl (E.2.1, 120, .inl (y 4))), ((g 6), .inl (E.2.1, 60, .inl (y 5))), ((g 7), .inl (E.2.1, 180, .inl (y 6)))]) (wr := []) (As := [.int q, .int 3]) (rest := []) (ci := 6) (q0 := 0) C (c_X6_of l E g y z q 3 K 3 hi rfl (by omega)) (gWV C kw_ml_X6_53 kw_im_X6_of kw_sel_X6_of kw_ini_X6 kw_code_X6_of ga_X6_of ⟨Nat.le_of_ble_eq_true rfl, Nat.le_of_ble_eq_true rfl⟩) rfl rfl [0, 1, 2, 3, 4, 5, 6, 7] [] [0, 1, 2, 3, 4, 5, 6, 7] rfl rfl rfl rfl (by decide) (fun _ => [((g 0), .inr (6, [.ref (g 1), .ref (g 2), .ref (g 3), .int (y 7 0), .ref (g 4), .int (y 7 1), .ref (g 5), .int (y 7 2), .int (y 7 3), .int (y 7 4), .int (y 7 5), .ref (g 6), .ref (g 7), .long z])), ((g 1), .inl (E.2.1, 47, .inl (y 0))), ((g 2), .inl (E.2.1, 47, .inl (y 1))), ((g 3), .inl (E.2.1, 235, .inl (y 2))), ((g 4), .inl (E.2.1, 8, .inl (y 3))), ((g 5), .inl (E.2.1, 120, .inl (y 4))), ((g 6), .inl (E.2.1, 60, .inl (y 5))), ((g 7), .inl (E.2.1, 180, .inl (y 6)))]) rfl (fun _ => rfl) rfl (Nat.le_of_ble_eq_true rfl) ⟨Nat.le_of_ble_eq_true rfl, Nat.le_of_ble_eq_true rfl⟩ rfl dX6_alarmed_10 (fun r_3 _ e_4 => ?_)
  subst e_4
  refine x_istore_n (lv1 := [(3, .int (y 0 (1 + 4 * K + 3))), (2, .int (y 0 (1 + 4 * K + 1))), (0, .ref (g 0)), (1, .int q)]) C dX6_alarmed_13 (by decide) rfl ?_
  refine x_aload_n C dX6_alarmed_14 2 rfl ?_
  refine x_iload_n C dX6_alarmed_15 3 rfl ?_
  refine x_iconst (v := 2) C dX6_alarmed_16 (by decide) ?_
  refine x_callVI (wc := [((g 0), .inr (6, [.ref (g 1), .ref (g 2), .ref (g 3), .int (y 7 0), .ref (g 4), .int (y 7 1), .ref (g 5), .int (y 7 2), .int (y 7 3), .int (y 7 4), .int (y 7 5), .ref (g 6), .ref (g 7), .long z])), ((g 1), .inl (E.2.1, 47, .inl (y 0))), ((g 2), .inl (E.2.1, 47, .inl (y 1))), ((g 3), .inl (E.2.1, 235, .inl (y 2))), ((g 4), .inl (E.2.1, 8, .inl (y 3))), ((g 5), .inl (E.2.1, 120, .inl (y 4))), ((g 6), .inl (E.2.1, 60, .inl (y 5))), ((g 7), .inl (E.2.1, 180, .inl (y 6)))]) (wr := []) (As := [.int q, .int 2]) (rest := []) (ci := 6) (q0 := 0) C (c_X6_of l E g y z q 2 K 2 hi rfl (by omega)) (gWV C kw_ml_X6_53 kw_im_X6_of kw_sel_X6_of kw_ini_X6 kw_code_X6_of ga_X6_of ⟨Nat.le_of_ble_eq_true rfl, Nat.le_of_ble_eq_true rfl⟩) rfl rfl [0, 1, 2, 3, 4, 5, 6, 7] [] [0, 1, 2, 3, 4, 5, 6, 7] rfl rfl rfl rfl (by decide) (fun _ => [((g 0), .inr (6, [.ref (g 1), .ref (g 2), .ref (g 3), .int (y 7 0), .ref (g 4), .int (y 7 1), .ref (g 5), .int (y 7 2), .int (y 7 3), .int (y 7 4), .int (y 7 5), .ref (g 6), .ref (g 7), .long z])), ((g 1), .inl (E.2.1, 47, .inl (y 0))), ((g 2), .inl (E.2.1, 47, .inl (y 1))), ((g 3), .inl (E.2.1, 235, .inl (y 2))), ((g 4), .inl (E.2.1, 8, .inl (y 3))), ((g 5), .inl (E.2.1, 120, .inl (y 4))), ((g 6), .inl (E.2.1, 60, .inl (y 5))), ((g 7), .inl (E.2.1, 180, .inl (y 6)))]) rfl (fun _ => rfl) rfl (Nat.le_of_ble_eq_true rfl) ⟨Nat.le_of_ble_eq_true rfl, Nat.le_of_ble_eq_true rfl⟩ rfl dX6_alarmed_17 (fun r_5 _ e_6 => ?_)
  subst e_6
  by_cases s_20_1 : (y 0 (1 + 4 * K + 2)) = 1
  · refine x_tabIn (tgt := 48) C dX6_alarmed_20 (by rw [s_20_1]; decide) (by rw [s_20_1]; decide) (by rw [s_20_1]; rfl) (by decide) ?_
    refine x_iload_n C dX6_alarmed_48 1 rfl ?_
    refine x_iload_n C dX6_alarmed_49 0 rfl ?_
    refine x_icmp_le (tgt := 57) C dX6_alarmed_50 (by decide) (fun c_50 => ?_) (fun c_50 => ?_)
    · refine x_iconst (v := 0) C dX6_alarmed_57 (by decide) ?_
      exact x_iret C hr hlocks rfl () (by rw [if_neg]; unfold alarmB; rw [if_pos s_20_1]; simpa [absI_mag] using c_50) (gEq.rf _) dX6_alarmed_58
    · refine x_iconst (v := 1) C dX6_alarmed_53 (by decide) ?_
      refine x_goto (tgt := 58) C dX6_alarmed_54 (by decide) ?_
      exact x_iret C hr hlocks rfl () (by rw [if_pos]; unfold alarmB; rw [if_pos s_20_1]; simpa [absI_mag] using c_50) (gEq.rf _) dX6_alarmed_58
  by_cases s_20_2 : (y 0 (1 + 4 * K + 2)) = 2
  · refine x_tabIn (tgt := 59) C dX6_alarmed_20 (by rw [s_20_2]; decide) (by rw [s_20_2]; decide) (by rw [s_20_2]; rfl) (by decide) ?_
    refine x_iload_n C dX6_alarmed_59 1 rfl ?_
    refine x_iload_n C dX6_alarmed_60 0 rfl ?_
    refine x_icmp_ge (tgt := 68) C dX6_alarmed_61 (by decide) (fun c_61 => ?_) (fun c_61 => ?_)
    · refine x_iconst (v := 0) C dX6_alarmed_68 (by decide) ?_
      exact x_iret C hr hlocks rfl () (by rw [if_neg]; unfold alarmB; rw [if_neg s_20_1, if_pos s_20_2]; simpa [absI_mag] using c_61) (gEq.rf _) dX6_alarmed_69
    · refine x_iconst (v := 1) C dX6_alarmed_64 (by decide) ?_
      refine x_goto (tgt := 69) C dX6_alarmed_65 (by decide) ?_
      exact x_iret C hr hlocks rfl () (by rw [if_pos]; unfold alarmB; rw [if_neg s_20_1, if_pos s_20_2]; simpa [absI_mag] using c_61) (gEq.rf _) dX6_alarmed_69
  by_cases s_20_3 : (y 0 (1 + 4 * K + 2)) = 3
  · refine x_tabIn (tgt := 70) C dX6_alarmed_20 (by rw [s_20_3]; decide) (by rw [s_20_3]; decide) (by rw [s_20_3]; rfl) (by decide) ?_
    refine x_iload_n C dX6_alarmed_70 1 rfl ?_
    refine x_callSI (wc := []) (wr := [((g 0), .inr (6, [.ref (g 1), .ref (g 2), .ref (g 3), .int (y 7 0), .ref (g 4), .int (y 7 1), .ref (g 5), .int (y 7 2), .int (y 7 3), .int (y 7 4), .int (y 7 5), .ref (g 6), .ref (g 7), .long z])), ((g 1), .inl (E.2.1, 47, .inl (y 0))), ((g 2), .inl (E.2.1, 47, .inl (y 1))), ((g 3), .inl (E.2.1, 235, .inl (y 2))), ((g 4), .inl (E.2.1, 8, .inl (y 3))), ((g 5), .inl (E.2.1, 120, .inl (y 4))), ((g 6), .inl (E.2.1, 60, .inl (y 5))), ((g 7), .inl (E.2.1, 180, .inl (y 6)))]) (As := [.int (y 0 (1 + 4 * K + 1))]) (rest := []) C (c_X6_magnitude l E (y 0 (1 + 4 * K + 1)) ) (gWS C kw_ml_X6_57 kw_st_X6_magnitude kw_ini_X6 kw_code_X6_magnitude ga_X6_magnitude ⟨Nat.le_of_ble_eq_true rfl, Nat.le_of_ble_eq_true rfl⟩) [] [0, 1, 2, 3, 4, 5, 6, 7] [0, 1, 2, 3, 4, 5, 6, 7] rfl rfl rfl rfl (by decide) (fun _ => [((g 0), .inr (6, [.ref (g 1), .ref (g 2), .ref (g 3), .int (y 7 0), .ref (g 4), .int (y 7 1), .ref (g 5), .int (y 7 2), .int (y 7 3), .int (y 7 4), .int (y 7 5), .ref (g 6), .ref (g 7), .long z])), ((g 1), .inl (E.2.1, 47, .inl (y 0))), ((g 2), .inl (E.2.1, 47, .inl (y 1))), ((g 3), .inl (E.2.1, 235, .inl (y 2))), ((g 4), .inl (E.2.1, 8, .inl (y 3))), ((g 5), .inl (E.2.1, 120, .inl (y 4))), ((g 6), .inl (E.2.1, 60, .inl (y 5))), ((g 7), .inl (E.2.1, 180, .inl (y 6)))]) rfl (fun _ => rfl) rfl (Nat.le_of_ble_eq_true rfl) ⟨Nat.le_of_ble_eq_true rfl, Nat.le_of_ble_eq_true rfl⟩ rfl dX6_alarmed_71 (fun r_7 _ e_8 => ?_)
    subst e_8
    refine x_iload_n C dX6_alarmed_74 0 rfl ?_
    refine x_callSI (wc := []) (wr := [((g 0), .inr (6, [.ref (g 1), .ref (g 2), .ref (g 3), .int (y 7 0), .ref (g 4), .int (y 7 1), .ref (g 5), .int (y 7 2), .int (y 7 3), .int (y 7 4), .int (y 7 5), .ref (g 6), .ref (g 7), .long z])), ((g 1), .inl (E.2.1, 47, .inl (y 0))), ((g 2), .inl (E.2.1, 47, .inl (y 1))), ((g 3), .inl (E.2.1, 235, .inl (y 2))), ((g 4), .inl (E.2.1, 8, .inl (y 3))), ((g 5), .inl (E.2.1, 120, .inl (y 4))), ((g 6), .inl (E.2.1, 60, .inl (y 5))), ((g 7), .inl (E.2.1, 180, .inl (y 6)))]) (As := [.int (y 0 (1 + 4 * K + 3))]) (rest := [.int (f_X6_magnitude_r (y 0 (1 + 4 * K + 1)))]) C (c_X6_magnitude l E (y 0 (1 + 4 * K + 3)) ) (gWS C kw_ml_X6_57 kw_st_X6_magnitude kw_ini_X6 kw_code_X6_magnitude ga_X6_magnitude ⟨Nat.le_of_ble_eq_true rfl, Nat.le_of_ble_eq_true rfl⟩) [] [0, 1, 2, 3, 4, 5, 6, 7] [0, 1, 2, 3, 4, 5, 6, 7] rfl rfl rfl rfl (by decide) (fun _ => [((g 0), .inr (6, [.ref (g 1), .ref (g 2), .ref (g 3), .int (y 7 0), .ref (g 4), .int (y 7 1), .ref (g 5), .int (y 7 2), .int (y 7 3), .int (y 7 4), .int (y 7 5), .ref (g 6), .ref (g 7), .long z])), ((g 1), .inl (E.2.1, 47, .inl (y 0))), ((g 2), .inl (E.2.1, 47, .inl (y 1))), ((g 3), .inl (E.2.1, 235, .inl (y 2))), ((g 4), .inl (E.2.1, 8, .inl (y 3))), ((g 5), .inl (E.2.1, 120, .inl (y 4))), ((g 6), .inl (E.2.1, 60, .inl (y 5))), ((g 7), .inl (E.2.1, 180, .inl (y 6)))]) rfl (fun _ => rfl) rfl (Nat.le_of_ble_eq_true rfl) ⟨Nat.le_of_ble_eq_true rfl, Nat.le_of_ble_eq_true rfl⟩ rfl dX6_alarmed_75 (fun r_9 _ e_10 => ?_)
    subst e_10
    refine x_icmp_le (tgt := 85) C dX6_alarmed_78 (by decide) (fun c_78 => ?_) (fun c_78 => ?_)
    · refine x_iconst (v := 0) C dX6_alarmed_85 (by decide) ?_
      exact x_iret C hr hlocks rfl () (by rw [if_neg]; unfold alarmB; rw [if_neg s_20_1, if_neg s_20_2, if_pos s_20_3]; simpa [absI_mag] using c_78) (gEq.rf _) dX6_alarmed_86
    · refine x_iconst (v := 1) C dX6_alarmed_81 (by decide) ?_
      refine x_goto (tgt := 86) C dX6_alarmed_82 (by decide) ?_
      exact x_iret C hr hlocks rfl () (by rw [if_pos]; unfold alarmB; rw [if_neg s_20_1, if_neg s_20_2, if_pos s_20_3]; simpa [absI_mag] using c_78) (gEq.rf _) dX6_alarmed_86
  refine x_tabOut (tgt := 87) C dX6_alarmed_20 (by simp only [← Int32.toInt_inj] at s_20_1 s_20_2 s_20_3; have e0 : (1 : Int32).toInt = 1 := rfl; have e1 : (2 : Int32).toInt = 2 := rfl; have e2 : (3 : Int32).toInt = 3 := rfl; omega) (by decide) ?_
  refine x_iconst (v := 0) C dX6_alarmed_87 (by decide) ?_
  exact x_iret C hr hlocks rfl () (by rw [if_neg]; unfold alarmB; rw [if_neg s_20_1, if_neg s_20_2, if_neg s_20_3]; simp) (gEq.rf _) dX6_alarmed_88
