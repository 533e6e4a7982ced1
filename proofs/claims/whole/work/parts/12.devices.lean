/-- is an alarm rule met -/
def absI (x : Int32) : Int32 := if 0 ≤ x then x else 0 - x
def alarmB (re ru li : Int32) : Bool := if ru = 1 then decide (li < re) else if ru = 2 then decide (re < li) else if ru = 3 then decide (absI li < absI re) else false
def alS (re ru li : Nat → Int32) : Nat → Int32
  | 0 => 0
  | k + 1 => if alarmB (re k) (ru k) (li k) = true then alS re ru li k ||| ((1 : Int32) <<< (nI k &&& 31)) else alS re ru li k
theorem alS_s (re ru li : Nat → Int32) (k : Nat) : alS re ru li (k + 1) = if alarmB (re k) (ru k) (li k) = true then alS re ru li k ||| ((1 : Int32) <<< (nI k &&& 31)) else alS re ru li k := rfl
def onS (f : Nat → Int32) (q : Int32) : Nat → Int32
  | 0 => 0
  | k + 1 => onS f q k ||| (((f k >>> (q &&& 31)) &&& 1) <<< (nI k &&& 31))
def memS (f : Nat → Int32) (q : Int32) : Nat → Int32
  | 0 => 0
  | k + 1 => if f k &&& 15 = q then memS f q k + 1 else memS f q k
theorem memS_s (f : Nat → Int32) (q : Int32) (k : Nat) : memS f q (k + 1) = if f k &&& 15 = q then memS f q k + 1 else memS f q k := rfl
def hasS (f : Nat → Int32) (q : Int32) : Nat → Bool
  | 0 => false
  | k + 1 => if f k = q then true else hasS f q k
theorem hasS_s (f : Nat → Int32) (q : Int32) (k : Nat) : hasS f q (k + 1) = if f k = q then true else hasS f q k := rfl
theorem hasS_t {f : Nat → Int32} {q : Int32} {k : Nat} (h : f k = q) : ∀ {n : Nat}, k < n → hasS f q n = true
  | 0, hk => absurd hk (Nat.not_lt_zero _)
  | n + 1, hk => by
    rw [hasS_s]
    by_cases e : f n = q
    · rw [if_pos e]
    · rw [if_neg e]
      rcases Nat.lt_succ_iff_lt_or_eq.mp hk with h1 | h1
      · exact hasS_t h h1
      · subst h1; exact absurd h e
/-- the row f with the places from K up to k taken from their right neighbours -/
def gap (f : Nat → Int32) (K k : Nat) : Nat → Int32 := fun j => if K ≤ j ∧ j < k then f (j + 1) else f j
theorem gap_0 (f : Nat → Int32) (K : Nat) : gap f K K = f := by funext j; unfold gap; rw [if_neg (by omega)]
theorem gap_s (f : Nat → Int32) {K k : Nat} (h : K ≤ k) : upd (gap f K k) k (gap f K k (k + 1)) = gap f K (k + 1) := by
  funext j
  unfold upd gap
  by_cases e : j = k
  · subst e; rw [if_pos rfl, if_neg (by omega), if_pos ⟨h, Nat.lt_succ_self _⟩]
  · rw [if_neg e]
    by_cases e2 : K ≤ j ∧ j < k
    · rw [if_pos e2, if_pos ⟨e2.1, by omega⟩]
    · rw [if_neg e2, if_neg (by omega)]
def mixD (d : Nat → Nat → Int32) (z : Int64) : Nat → Int64
  | 0 => 31 * z + (d 4 0).toInt64
  | k + 1 => 31 * (31 * (31 * (31 * mixD d z k + (d 0 k).toInt64) + (d 1 k).toInt64) + (d 2 k).toInt64) + (d 3 k).toInt64
theorem cpy_all {f g : Nat → Int32} {n : Nat} : ∀ j, j < n → va_cpy f g 0 0 n j = f j := fun j h => by unfold va_cpy; rw [if_pos ⟨Nat.zero_le _, by omega⟩, Nat.zero_add, Nat.sub_zero]
theorem upRow (d : Nat → Nat → Int32) (i : Nat) : va_up d i (d i) = d := by funext j; unfold va_up; by_cases h : j = i <;> simp [h]
theorem rsRow (d : Nat → Nat → Int32) (i k : Nat) (f : Nat → Int32) (v : Int32) : rs (va_up d i f) i k v = va_up d i (upd f k v) := by funext j; unfold rs va_up; by_cases h : j = i <;> simp [h]
set_option maxHeartbeats 4000000 in
set_option maxRecDepth 100000 in
theorem c_X2_has (l : Launch) (E : gE) (a : Nat → Nat) (d : Nat → Nat → Int32) (i : Int32)  : CtI l E yX2_has prog_4_method_3_code 2 (some .boolean) 0 0 0 0 [.ref (a 1), .int i] [((a 1), .inr (2, [.ref (a 2), .ref (a 3), .ref (a 4), .ref (a 5), .int (d 4 0)]))] (fun r (_ : Unit) => r = (if 0 ≤ i ∧ i < d 4 0 then 1 else 0)) (fun _ => [((a 1), .inr (2, [.ref (a 2), .ref (a 3), .ref (a 4), .ref (a 5), .int (d 4 0)]))]) := by
  refine CtI.start (by decide) (Nat.le_of_ble_eq_true rfl) ?_
  intro p_ e_ s_ m_ below_ meth_ c_ A_ C hr hlocks hnm
  refine Wd.cast (lv1 := [(0, .ref (a 1)), (1, .int i)]) rfl rfl rfl ?_
  refine x_iload_n C dX2_has_0 1 rfl ?_
  refine x_if_lt (tgt := 16) C dX2_has_1 (by decide) (fun c_1 => ?_) (fun c_1 => ?_)
  · refine x_iconst (v := 0) C dX2_has_16 (by decide) ?_
    exact x_iret C hr hlocks rfl () (by first | exact (if_pos (by (try simp only [Int32.lt_iff_toInt_lt, Int32.le_iff_toInt_le, ← Int32.toInt_inj] at *); omega)).symm | exact (if_neg (by (try simp only [Int32.lt_iff_toInt_lt, Int32.le_iff_toInt_le, ← Int32.toInt_inj] at *); omega)).symm) (gEq.rf _) dX2_has_17
  · refine x_iload_n C dX2_has_4 1 rfl ?_
    refine x_aload_n C dX2_has_5 0 rfl ?_
    refine x_get (ref := "RomSearchBus$Devices") (v := .int (d 4 0)) C inX2 0 4 rfl rfl (by decide) kw_fl_X2_24 rfl rfl dX2_has_6 ?_
    refine x_icmp_ge (tgt := 16) C dX2_has_9 (by decide) (fun c_9 => ?_) (fun c_9 => ?_)
    · refine x_iconst (v := 0) C dX2_has_16 (by decide) ?_
      exact x_iret C hr hlocks rfl () (by first | exact (if_pos (by (try simp only [Int32.lt_iff_toInt_lt, Int32.le_iff_toInt_le, ← Int32.toInt_inj] at *); omega)).symm | exact (if_neg (by (try simp only [Int32.lt_iff_toInt_lt, Int32.le_iff_toInt_le, ← Int32.toInt_inj] at *); omega)).symm) (gEq.rf _) dX2_has_17
    · refine x_iconst (v := 1) C dX2_has_12 (by decide) ?_
      refine x_goto (tgt := 17) C dX2_has_13 (by decide) ?_
      exact x_iret C hr hlocks rfl () (by first | exact (if_pos (by (try simp only [Int32.lt_iff_toInt_lt, Int32.le_iff_toInt_le, ← Int32.toInt_inj] at *); omega)).symm | exact (if_neg (by (try simp only [Int32.lt_iff_toInt_lt, Int32.le_iff_toInt_le, ← Int32.toInt_inj] at *); omega)).symm) (gEq.rf _) dX2_has_17
set_option maxHeartbeats 4000000 in
set_option maxRecDepth 100000 in
theorem c_X2_wholeSet (l : Launch) (E : gE) (a : Nat → Nat) (d : Nat → Nat → Int32)  : CtI l E yX2_wholeSet prog_4_method_8_code 1 (some .int) 0 0 0 0 [.ref (a 1)] [((a 1), .inr (2, [.ref (a 2), .ref (a 3), .ref (a 4), .ref (a 5), .int (d 4 0)]))] (fun r (_ : Unit) => r = (1 <<< (d 4 0 &&& 31)) - 1) (fun _ => [((a 1), .inr (2, [.ref (a 2), .ref (a 3), .ref (a 4), .ref (a 5), .int (d 4 0)]))]) := by
  refine CtI.start (by decide) (Nat.le_of_ble_eq_true rfl) ?_
  intro p_ e_ s_ m_ below_ meth_ c_ A_ C hr hlocks hnm
  refine Wd.cast (lv1 := [(0, .ref (a 1))]) rfl rfl rfl ?_
  refine x_iconst (v := 1) C dX2_wholeSet_0 (by decide) ?_
  refine x_aload_n C dX2_wholeSet_1 0 rfl ?_
  refine x_get (ref := "RomSearchBus$Devices") (v := .int (d 4 0)) C inX2 0 4 rfl rfl (by decide) kw_fl_X2_24 rfl rfl dX2_wholeSet_2 ?_
  refine x_ishl C dX2_wholeSet_5 ?_
  refine x_iconst (v := 1) C dX2_wholeSet_6 (by decide) ?_
  refine x_isub C dX2_wholeSet_7 ?_
  exact x_iret C hr hlocks rfl () rfl (gEq.rf _) dX2_wholeSet_8
set_option maxHeartbeats 4000000 in
set_option maxRecDepth 100000 in
theorem c_X2_isAlarmed (l : Launch) (E : gE) (a : Nat → Nat) (d : Nat → Nat → Int32) (i : Int32) (K : Nat) (hi : i = nI K) (hK : K < 8) : CtI l E yX2_isAlarmed prog_4_method_15_code 4 (some .boolean) 1 14 0 0 [.ref (a 1), .int i] [((a 1), .inr (2, [.ref (a 2), .ref (a 3), .ref (a 4), .ref (a 5), .int (d 4 0)])), ((a 2), .inl (E.2.1, 8, .inl (d 0))), ((a 3), .inl (E.2.1, 8, .inl (d 1))), ((a 4), .inl (E.2.1, 8, .inl (d 2))), ((a 5), .inl (E.2.1, 8, .inl (d 3)))] (fun r (_ : Unit) => r = (if alarmB (d 1 K) (d 2 K) (d 3 K) = true then 1 else 0)) (fun _ => [((a 1), .inr (2, [.ref (a 2), .ref (a 3), .ref (a 4), .ref (a 5), .int (d 4 0)])), ((a 2), .inl (E.2.1, 8, .inl (d 0))), ((a 3), .inl (E.2.1, 8, .inl (d 1))), ((a 4), .inl (E.2.1, 8, .inl (d 2))), ((a 5), .inl (E.2.1, 8, .inl (d 3)))]) := by
  refine CtI.start (by decide) (Nat.le_of_ble_eq_true rfl) ?_
  intro p_ e_ s_ m_ below_ meth_ c_ A_ C hr hlocks hnm
  refine Wd.cast (lv1 := [(0, .ref (a 1)), (1, .int i)]) rfl rfl rfl ?_
  refine x_aload_n C dX2_isAlarmed_0 0 rfl ?_
  refine x_get (ref := "RomSearchBus$Devices") (v := .ref (a 3)) C inX2 0 1 rfl rfl (by decide) kw_fl_X2_15 rfl rfl dX2_isAlarmed_1 ?_
  refine x_iload_n C dX2_isAlarmed_4 1 rfl ?_
  refine x_ialdN (x := (d 1 K)) C 2 rfl hi hK (by decide) rfl dX2_isAlarmed_5 ?_
  refine x_istore_n (lv1 := [(2, .int (d 1 K)), (0, .ref (a 1)), (1, .int i)]) C dX2_isAlarmed_6 (by decide) rfl ?_
  refine x_aload_n C dX2_isAlarmed_7 1 rfl ?_
  refine x_get (ref := "RomSearchBus$Devices") (v := .ref (a 5)) C inX2 0 3 rfl rfl (by decide) kw_fl_X2_21 rfl rfl dX2_isAlarmed_8 ?_
  refine x_iload_n C dX2_isAlarmed_11 2 rfl ?_
  refine x_ialdN (x := (d 3 K)) C 4 rfl hi hK (by decide) rfl dX2_isAlarmed_12 ?_
  refine x_istore_n (lv1 := [(3, .int (d 3 K)), (2, .int (d 1 K)), (0, .ref (a 1)), (1, .int i)]) C dX2_isAlarmed_13 (by decide) rfl ?_
  refine x_aload_n C dX2_isAlarmed_14 2 rfl ?_
  refine x_get (ref := "RomSearchBus$Devices") (v := .ref (a 4)) C inX2 0 2 rfl rfl (by decide) kw_fl_X2_18 rfl rfl dX2_isAlarmed_15 ?_
  refine x_iload_n C dX2_isAlarmed_18 3 rfl ?_
  refine x_ialdN (x := (d 2 K)) C 3 rfl hi hK (by decide) rfl dX2_isAlarmed_19 ?_
  by_cases s_20_1 : (d 2 K) = 1
  · refine x_tabIn (tgt := 48) C dX2_isAlarmed_20 (by rw [s_20_1]; decide) (by rw [s_20_1]; decide) (by rw [s_20_1]; rfl) (by decide) ?_
    refine x_iload_n C dX2_isAlarmed_48 1 rfl ?_
    refine x_iload_n C dX2_isAlarmed_49 0 rfl ?_
    refine x_icmp_le (tgt := 57) C dX2_isAlarmed_50 (by decide) (fun c_50 => ?_) (fun c_50 => ?_)
    · refine x_iconst (v := 0) C dX2_isAlarmed_57 (by decide) ?_
      exact x_iret C hr hlocks rfl () (by rw [if_neg]; unfold alarmB; rw [if_pos s_20_1]; simpa [absI] using c_50) (gEq.rf _) dX2_isAlarmed_58
    · refine x_iconst (v := 1) C dX2_isAlarmed_53 (by decide) ?_
      refine x_goto (tgt := 58) C dX2_isAlarmed_54 (by decide) ?_
      exact x_iret C hr hlocks rfl () (by rw [if_pos]; unfold alarmB; rw [if_pos s_20_1]; simpa [absI] using c_50) (gEq.rf _) dX2_isAlarmed_58
  by_cases s_20_2 : (d 2 K) = 2
  · refine x_tabIn (tgt := 59) C dX2_isAlarmed_20 (by rw [s_20_2]; decide) (by rw [s_20_2]; decide) (by rw [s_20_2]; rfl) (by decide) ?_
    refine x_iload_n C dX2_isAlarmed_59 1 rfl ?_
    refine x_iload_n C dX2_isAlarmed_60 0 rfl ?_
    refine x_icmp_ge (tgt := 68) C dX2_isAlarmed_61 (by decide) (fun c_61 => ?_) (fun c_61 => ?_)
    · refine x_iconst (v := 0) C dX2_isAlarmed_68 (by decide) ?_
      exact x_iret C hr hlocks rfl () (by rw [if_neg]; unfold alarmB; rw [if_neg s_20_1, if_pos s_20_2]; simpa [absI] using c_61) (gEq.rf _) dX2_isAlarmed_69
    · refine x_iconst (v := 1) C dX2_isAlarmed_64 (by decide) ?_
      refine x_goto (tgt := 69) C dX2_isAlarmed_65 (by decide) ?_
      exact x_iret C hr hlocks rfl () (by rw [if_pos]; unfold alarmB; rw [if_neg s_20_1, if_pos s_20_2]; simpa [absI] using c_61) (gEq.rf _) dX2_isAlarmed_69
  by_cases s_20_3 : (d 2 K) = 3
  · refine x_tabIn (tgt := 70) C dX2_isAlarmed_20 (by rw [s_20_3]; decide) (by rw [s_20_3]; decide) (by rw [s_20_3]; rfl) (by decide) ?_
    refine x_iload_n C dX2_isAlarmed_70 1 rfl ?_
    refine x_abs C kw_ml_X2_63 (Nat.le_of_ble_eq_true rfl) (Nat.le_of_ble_eq_true rfl) (Nat.zero_le _) (Nat.zero_le _) dX2_isAlarmed_71 ?_
    refine x_iload_n C dX2_isAlarmed_74 0 rfl ?_
    refine x_abs C kw_ml_X2_63 (Nat.le_of_ble_eq_true rfl) (Nat.le_of_ble_eq_true rfl) (Nat.zero_le _) (Nat.zero_le _) dX2_isAlarmed_75 ?_
    refine x_icmp_le (tgt := 85) C dX2_isAlarmed_78 (by decide) (fun c_78 => ?_) (fun c_78 => ?_)
    · refine x_iconst (v := 0) C dX2_isAlarmed_85 (by decide) ?_
      exact x_iret C hr hlocks rfl () (by rw [if_neg]; unfold alarmB; rw [if_neg s_20_1, if_neg s_20_2, if_pos s_20_3]; simpa [absI] using c_78) (gEq.rf _) dX2_isAlarmed_86
    · refine x_iconst (v := 1) C dX2_isAlarmed_81 (by decide) ?_
      refine x_goto (tgt := 86) C dX2_isAlarmed_82 (by decide) ?_
      exact x_iret C hr hlocks rfl () (by rw [if_pos]; unfold alarmB; rw [if_neg s_20_1, if_neg s_20_2, if_pos s_20_3]; simpa [absI] using c_78) (gEq.rf _) dX2_isAlarmed_86
  refine x_tabOut (tgt := 87) C dX2_isAlarmed_20 (by simp only [← Int32.toInt_inj] at s_20_1 s_20_2 s_20_3; have e0 : (1 : Int32).toInt = 1 := rfl; have e1 : (2 : Int32).toInt = 2 := rfl; have e2 : (3 : Int32).toInt = 3 := rfl; omega) (by decide) ?_
  refine x_iconst (v := 0) C dX2_isAlarmed_87 (by decide) ?_
  exact x_iret C hr hlocks rfl () (by rw [if_neg]; unfold alarmB; rw [if_neg s_20_1, if_neg s_20_2, if_neg s_20_3]; simp) (gEq.rf _) dX2_isAlarmed_88
set_option maxHeartbeats 4000000 in
set_option maxRecDepth 100000 in
theorem c_X2_alarmedSet (l : Launch) (E : gE) (a : Nat → Nat) (d : Nat → Nat → Int32) (n : Nat) (hn : d 4 0 = nI n) (h8 : n ≤ 8) : CtI l E yX2_alarmedSet prog_4_method_9_code 3 (some .int) 2 37 0 0 [.ref (a 1)] [((a 1), .inr (2, [.ref (a 2), .ref (a 3), .ref (a 4), .ref (a 5), .int (d 4 0)])), ((a 2), .inl (E.2.1, 8, .inl (d 0))), ((a 3), .inl (E.2.1, 8, .inl (d 1))), ((a 4), .inl (E.2.1, 8, .inl (d 2))), ((a 5), .inl (E.2.1, 8, .inl (d 3)))] (fun r (_ : Unit) => r = alS (d 1) (d 2) (d 3) n) (fun _ => [((a 1), .inr (2, [.ref (a 2), .ref (a 3), .ref (a 4), .ref (a 5), .int (d 4 0)])), ((a 2), .inl (E.2.1, 8, .inl (d 0))), ((a 3), .inl (E.2.1, 8, .inl (d 1))), ((a 4), .inl (E.2.1, 8, .inl (d 2))), ((a 5), .inl (E.2.1, 8, .inl (d 3)))]) := by
  refine CtI.start (by decide) (Nat.le_of_ble_eq_true rfl) ?_
  intro p_ e_ s_ m_ below_ meth_ c_ A_ C hr hlocks hnm
  refine Wd.cast (lv1 := [(0, .ref (a 1))]) rfl rfl rfl ?_
  refine x_iconst (v := 0) C dX2_alarmedSet_0 (by decide) ?_
  refine x_istore_n (lv1 := [(1, .int 0), (0, .ref (a 1))]) C dX2_alarmedSet_1 (by decide) rfl ?_
  refine x_iconst (v := 0) C dX2_alarmedSet_2 (by decide) ?_
  refine x_istore_n (lv1 := [(2, .int 0), (1, .int 0), (0, .ref (a 1))]) C dX2_alarmedSet_3 (by decide) rfl ?_
  refine Wd.locs (lv1 := [(0, .ref (a 1)), (1, .int 0), (2, .int 0)]) [2, 1, 0] rfl ?_
  refine Wd.cast (w1 := [((a 1), .inr (2, [.ref (a 2), .ref (a 3), .ref (a 4), .ref (a 5), .int (d 4 0)])), ((a 2), .inl (E.2.1, 8, .inl (d 0))), ((a 3), .inl (E.2.1, 8, .inl (d 1))), ((a 4), .inl (E.2.1, 8, .inl (d 2))), ((a 5), .inl (E.2.1, 8, .inl (d 3)))]) (lv1 := [(0, .ref (a 1)), (1, .int (alS (d 1) (d 2) (d 3) 0)), (2, .int (nI 0))]) rfl rfl rfl ?_
  refine Wd.up (W1 := fun k => [((a 1), .inr (2, [.ref (a 2), .ref (a 3), .ref (a 4), .ref (a 5), .int (d 4 0)])), ((a 2), .inl (E.2.1, 8, .inl (d 0))), ((a 3), .inl (E.2.1, 8, .inl (d 1))), ((a 4), .inl (E.2.1, 8, .inl (d 2))), ((a 5), .inl (E.2.1, 8, .inl (d 3)))]) (LV := fun k => [(0, .ref (a 1)), (1, .int (alS (d 1) (d 2) (d 3) k)), (2, .int (nI k))]) (fun k => True) 0 n (by omega) (trivial) (fun hI => ?_) (fun k hk0 hk hI ih => ?_)
  · refine Wd.cast (w1 := [((a 1), .inr (2, [.ref (a 2), .ref (a 3), .ref (a 4), .ref (a 5), .int (d 4 0)])), ((a 2), .inl (E.2.1, 8, .inl (d 0))), ((a 3), .inl (E.2.1, 8, .inl (d 1))), ((a 4), .inl (E.2.1, 8, .inl (d 2))), ((a 5), .inl (E.2.1, 8, .inl (d 3)))]) (lv1 := [(0, .ref (a 1)), (1, .int (alS (d 1) (d 2) (d 3) n)), (2, .int (nI n))]) rfl rfl rfl ?_
    refine x_iload_n C dX2_alarmedSet_4 2 rfl ?_
    refine x_aload_n C dX2_alarmedSet_5 0 rfl ?_
    refine x_get (ref := "RomSearchBus$Devices") (v := .int (d 4 0)) C inX2 0 4 rfl rfl (by decide) kw_fl_X2_24 rfl rfl dX2_alarmedSet_6 ?_
    refine x_icmp_ge (tgt := 32) C dX2_alarmedSet_9 (by decide) (fun c_9 => ?_) (fun c_9 => absurd (by rw [hn]; exact Int32.le_refl _) c_9)
    refine x_iload_n C dX2_alarmedSet_32 1 rfl ?_
    exact x_iret C hr hlocks rfl () rfl (gEq.rf _) dX2_alarmedSet_33
  · refine Wd.cast (w1 := [((a 1), .inr (2, [.ref (a 2), .ref (a 3), .ref (a 4), .ref (a 5), .int (d 4 0)])), ((a 2), .inl (E.2.1, 8, .inl (d 0))), ((a 3), .inl (E.2.1, 8, .inl (d 1))), ((a 4), .inl (E.2.1, 8, .inl (d 2))), ((a 5), .inl (E.2.1, 8, .inl (d 3)))]) (lv1 := [(0, .ref (a 1)), (1, .int (alS (d 1) (d 2) (d 3) k)), (2, .int (nI k))]) rfl rfl rfl ?_
    refine x_iload_n C dX2_alarmedSet_4 2 rfl ?_
    refine x_aload_n C dX2_alarmedSet_5 0 rfl ?_
    refine x_get (ref := "RomSearchBus$Devices") (v := .int (d 4 0)) C inX2 0 4 rfl rfl (by decide) kw_fl_X2_24 rfl rfl dX2_alarmedSet_6 ?_
    refine x_icmp_ge (tgt := 32) C dX2_alarmedSet_9 (by decide) (fun c_9 => absurd c_9 (by rw [hn]; exact nI_ge hk (by omega))) (fun c_9 => ?_)
    refine x_aload_n C dX2_alarmedSet_12 0 rfl ?_
    refine x_iload_n C dX2_alarmedSet_13 2 rfl ?_
    refine x_callVI (wc := [((a 1), .inr (2, [.ref (a 2), .ref (a 3), .ref (a 4), .ref (a 5), .int (d 4 0)])), ((a 2), .inl (E.2.1, 8, .inl (d 0))), ((a 3), .inl (E.2.1, 8, .inl (d 1))), ((a 4), .inl (E.2.1, 8, .inl (d 2))), ((a 5), .inl (E.2.1, 8, .inl (d 3)))]) (wr := []) (As := [.int (nI k)]) (rest := []) (ci := 2) (q0 := 0) C (c_X2_isAlarmed l E a d (nI k) k rfl (by omega)) (gWV C kw_ml_X2_53 kw_im_X2_isAlarmed kw_sel_X2_isAlarmed kw_ini_X2 kw_code_X2_isAlarmed ga_X2_isAlarmed ⟨Nat.le_of_ble_eq_true rfl, Nat.le_of_ble_eq_true rfl⟩) rfl rfl [0, 1, 2, 3, 4] [] [0, 1, 2, 3, 4] rfl rfl rfl rfl (by decide) (fun _ => [((a 1), .inr (2, [.ref (a 2), .ref (a 3), .ref (a 4), .ref (a 5), .int (d 4 0)])), ((a 2), .inl (E.2.1, 8, .inl (d 0))), ((a 3), .inl (E.2.1, 8, .inl (d 1))), ((a 4), .inl (E.2.1, 8, .inl (d 2))), ((a 5), .inl (E.2.1, 8, .inl (d 3)))]) rfl (fun _ => rfl) rfl (Nat.le_of_ble_eq_true rfl) ⟨Nat.le_of_ble_eq_true rfl, Nat.le_of_ble_eq_true rfl⟩ rfl dX2_alarmedSet_14 (fun r_1 _ e_2 => ?_)
    subst e_2
    refine x_ifB_eq (tgt := 26) C dX2_alarmedSet_17 (by decide) (fun c_17 => ?_) (fun c_17 => ?_)
    · refine x_iinc (j := 2) (v := (nI (k + 1))) (lv1 := [(2, .int (nI (k + 1))), (0, .ref (a 1)), (1, .int (alS (d 1) (d 2) (d 3) k))]) C dX2_alarmedSet_26 rfl (nI_1 _) (by decide) rfl ?_
      refine x_goto (tgt := 4) C dX2_alarmedSet_29 (by decide) ?_
      refine Wd.locs (lv1 := [(0, .ref (a 1)), (1, .int (alS (d 1) (d 2) (d 3) k)), (2, .int (nI (k + 1)))]) [1, 2, 0] rfl ?_
      have w_3 : alS (d 1) (d 2) (d 3) k = alS (d 1) (d 2) (d 3) (k + 1) := (by rw [alS_s, if_neg c_17])
      exact Wd.cast (w1 := [((a 1), .inr (2, [.ref (a 2), .ref (a 3), .ref (a 4), .ref (a 5), .int (d 4 0)])), ((a 2), .inl (E.2.1, 8, .inl (d 0))), ((a 3), .inl (E.2.1, 8, .inl (d 1))), ((a 4), .inl (E.2.1, 8, .inl (d 2))), ((a 5), .inl (E.2.1, 8, .inl (d 3)))]) (lv1 := [(0, .ref (a 1)), (1, .int (alS (d 1) (d 2) (d 3) (k + 1))), (2, .int (nI (k + 1)))]) rfl (by first | (rw [w_3]; done) | (rw [← w_3]; done) | simp only [w_3]) rfl (ih trivial)
    · refine x_iload_n C dX2_alarmedSet_20 1 rfl ?_
      refine x_iconst (v := 1) C dX2_alarmedSet_21 (by decide) ?_
      refine x_iload_n C dX2_alarmedSet_22 2 rfl ?_
      refine x_ishl C dX2_alarmedSet_23 ?_
      refine x_ior C dX2_alarmedSet_24 ?_
      refine x_istore_n (lv1 := [(1, .int ((alS (d 1) (d 2) (d 3) k) ||| (1 <<< ((nI k) &&& 31)))), (0, .ref (a 1)), (2, .int (nI k))]) C dX2_alarmedSet_25 (by decide) rfl ?_
      refine x_iinc (j := 2) (v := (nI (k + 1))) (lv1 := [(2, .int (nI (k + 1))), (1, .int ((alS (d 1) (d 2) (d 3) k) ||| (1 <<< ((nI k) &&& 31)))), (0, .ref (a 1))]) C dX2_alarmedSet_26 rfl (nI_1 _) (by decide) rfl ?_
      refine x_goto (tgt := 4) C dX2_alarmedSet_29 (by decide) ?_
      refine Wd.locs (lv1 := [(0, .ref (a 1)), (1, .int ((alS (d 1) (d 2) (d 3) k) ||| (1 <<< ((nI k) &&& 31)))), (2, .int (nI (k + 1)))]) [2, 1, 0] rfl ?_
      have w_4 : ((alS (d 1) (d 2) (d 3) k) ||| (1 <<< ((nI k) &&& 31))) = alS (d 1) (d 2) (d 3) (k + 1) := (by rw [alS_s, if_pos c_17])
      exact Wd.cast (w1 := [((a 1), .inr (2, [.ref (a 2), .ref (a 3), .ref (a 4), .ref (a 5), .int (d 4 0)])), ((a 2), .inl (E.2.1, 8, .inl (d 0))), ((a 3), .inl (E.2.1, 8, .inl (d 1))), ((a 4), .inl (E.2.1, 8, .inl (d 2))), ((a 5), .inl (E.2.1, 8, .inl (d 3)))]) (lv1 := [(0, .ref (a 1)), (1, .int (alS (d 1) (d 2) (d 3) (k + 1))), (2, .int (nI (k + 1)))]) rfl (by first | (rw [w_4]; done) | (rw [← w_4]; done) | simp only [w_4]) rfl (ih trivial)
set_option maxHeartbeats 4000000 in
set_option maxRecDepth 100000 in
theorem c_X2_setWithOneAt (l : Launch) (E : gE) (a : Nat → Nat) (d : Nat → Nat → Int32) (q : Int32) (n : Nat) (hn : d 4 0 = nI n) (h8 : n ≤ 8) : CtI l E yX2_setWithOneAt prog_4_method_10_code 4 (some .int) 1 21 0 0 [.ref (a 1), .int q] [((a 1), .inr (2, [.ref (a 2), .ref (a 3), .ref (a 4), .ref (a 5), .int (d 4 0)])), ((a 2), .inl (E.2.1, 8, .inl (d 0))), ((a 3), .inl (E.2.1, 8, .inl (d 1))), ((a 4), .inl (E.2.1, 8, .inl (d 2))), ((a 5), .inl (E.2.1, 8, .inl (d 3)))] (fun r (_ : Unit) => r = onS (d 0) q n) (fun _ => [((a 1), .inr (2, [.ref (a 2), .ref (a 3), .ref (a 4), .ref (a 5), .int (d 4 0)])), ((a 2), .inl (E.2.1, 8, .inl (d 0))), ((a 3), .inl (E.2.1, 8, .inl (d 1))), ((a 4), .inl (E.2.1, 8, .inl (d 2))), ((a 5), .inl (E.2.1, 8, .inl (d 3)))]) := by
  refine CtI.start (by decide) (Nat.le_of_ble_eq_true rfl) ?_
  intro p_ e_ s_ m_ below_ meth_ c_ A_ C hr hlocks hnm
  refine Wd.cast (lv1 := [(0, .ref (a 1)), (1, .int q)]) rfl rfl rfl ?_
  refine x_iconst (v := 0) C dX2_setWithOneAt_0 (by decide) ?_
  refine x_istore_n (lv1 := [(2, .int 0), (0, .ref (a 1)), (1, .int q)]) C dX2_setWithOneAt_1 (by decide) rfl ?_
  refine x_iconst (v := 0) C dX2_setWithOneAt_2 (by decide) ?_
  refine x_istore_n (lv1 := [(3, .int 0), (2, .int 0), (0, .ref (a 1)), (1, .int q)]) C dX2_setWithOneAt_3 (by decide) rfl ?_
  refine Wd.locs (lv1 := [(0, .ref (a 1)), (1, .int q), (2, .int 0), (3, .int 0)]) [2, 3, 1, 0] rfl ?_
  refine Wd.cast (w1 := [((a 1), .inr (2, [.ref (a 2), .ref (a 3), .ref (a 4), .ref (a 5), .int (d 4 0)])), ((a 2), .inl (E.2.1, 8, .inl (d 0))), ((a 3), .inl (E.2.1, 8, .inl (d 1))), ((a 4), .inl (E.2.1, 8, .inl (d 2))), ((a 5), .inl (E.2.1, 8, .inl (d 3)))]) (lv1 := [(0, .ref (a 1)), (1, .int q), (2, .int (onS (d 0) q 0)), (3, .int (nI 0))]) rfl rfl rfl ?_
  refine Wd.up (W1 := fun k => [((a 1), .inr (2, [.ref (a 2), .ref (a 3), .ref (a 4), .ref (a 5), .int (d 4 0)])), ((a 2), .inl (E.2.1, 8, .inl (d 0))), ((a 3), .inl (E.2.1, 8, .inl (d 1))), ((a 4), .inl (E.2.1, 8, .inl (d 2))), ((a 5), .inl (E.2.1, 8, .inl (d 3)))]) (LV := fun k => [(0, .ref (a 1)), (1, .int q), (2, .int (onS (d 0) q k)), (3, .int (nI k))]) (fun k => True) 0 n (by omega) (trivial) (fun hI => ?_) (fun k hk0 hk hI ih => ?_)
  · refine Wd.cast (w1 := [((a 1), .inr (2, [.ref (a 2), .ref (a 3), .ref (a 4), .ref (a 5), .int (d 4 0)])), ((a 2), .inl (E.2.1, 8, .inl (d 0))), ((a 3), .inl (E.2.1, 8, .inl (d 1))), ((a 4), .inl (E.2.1, 8, .inl (d 2))), ((a 5), .inl (E.2.1, 8, .inl (d 3)))]) (lv1 := [(0, .ref (a 1)), (1, .int q), (2, .int (onS (d 0) q n)), (3, .int (nI n))]) rfl rfl rfl ?_
    refine x_iload_n C dX2_setWithOneAt_4 3 rfl ?_
    refine x_aload_n C dX2_setWithOneAt_5 0 rfl ?_
    refine x_get (ref := "RomSearchBus$Devices") (v := .int (d 4 0)) C inX2 0 4 rfl rfl (by decide) kw_fl_X2_24 rfl rfl dX2_setWithOneAt_6 ?_
    refine x_icmp_ge (tgt := 33) C dX2_setWithOneAt_9 (by decide) (fun c_9 => ?_) (fun c_9 => absurd (by rw [hn]; exact Int32.le_refl _) c_9)
    refine x_iload_n C dX2_setWithOneAt_33 2 rfl ?_
    exact x_iret C hr hlocks rfl () rfl (gEq.rf _) dX2_setWithOneAt_34
  · refine Wd.cast (w1 := [((a 1), .inr (2, [.ref (a 2), .ref (a 3), .ref (a 4), .ref (a 5), .int (d 4 0)])), ((a 2), .inl (E.2.1, 8, .inl (d 0))), ((a 3), .inl (E.2.1, 8, .inl (d 1))), ((a 4), .inl (E.2.1, 8, .inl (d 2))), ((a 5), .inl (E.2.1, 8, .inl (d 3)))]) (lv1 := [(0, .ref (a 1)), (1, .int q), (2, .int (onS (d 0) q k)), (3, .int (nI k))]) rfl rfl rfl ?_
    refine x_iload_n C dX2_setWithOneAt_4 3 rfl ?_
    refine x_aload_n C dX2_setWithOneAt_5 0 rfl ?_
    refine x_get (ref := "RomSearchBus$Devices") (v := .int (d 4 0)) C inX2 0 4 rfl rfl (by decide) kw_fl_X2_24 rfl rfl dX2_setWithOneAt_6 ?_
    refine x_icmp_ge (tgt := 33) C dX2_setWithOneAt_9 (by decide) (fun c_9 => absurd c_9 (by rw [hn]; exact nI_ge hk (by omega))) (fun c_9 => ?_)
    refine x_iload_n C dX2_setWithOneAt_12 2 rfl ?_
    refine x_aload_n C dX2_setWithOneAt_13 0 rfl ?_
    refine x_get (ref := "RomSearchBus$Devices") (v := .ref (a 2)) C inX2 0 0 rfl rfl (by decide) kw_fl_X2_11 rfl rfl dX2_setWithOneAt_14 ?_
    refine x_iload_n C dX2_setWithOneAt_17 3 rfl ?_
    refine x_ialdN (x := (d 0 k)) C 1 rfl rfl (by omega) (by decide) rfl dX2_setWithOneAt_18 ?_
    refine x_iload_n C dX2_setWithOneAt_19 1 rfl ?_
    refine x_callNI (wc := []) (wr := [((a 1), .inr (2, [.ref (a 2), .ref (a 3), .ref (a 4), .ref (a 5), .int (d 4 0)])), ((a 2), .inl (E.2.1, 8, .inl (d 0))), ((a 3), .inl (E.2.1, 8, .inl (d 1))), ((a 4), .inl (E.2.1, 8, .inl (d 2))), ((a 5), .inl (E.2.1, 8, .inl (d 3)))]) (As := [.int (d 0 k), .int q]) (rest := [.int (onS (d 0) q k)]) C (c_X5_bitAt l E (d 0 k) q ) (gWN (host := RX5) C (by unfold gNest; exact List.mem_of_getElem? (i := 3) rfl) kw_st_X5_bitAt kw_ini_X5 kw_code_X5_bitAt ga_X5_bitAt ⟨Nat.le_of_ble_eq_true rfl, Nat.le_of_ble_eq_true rfl⟩) [] [0, 1, 2, 3, 4] [0, 1, 2, 3, 4] rfl rfl rfl rfl (by decide) (fun _ => [((a 1), .inr (2, [.ref (a 2), .ref (a 3), .ref (a 4), .ref (a 5), .int (d 4 0)])), ((a 2), .inl (E.2.1, 8, .inl (d 0))), ((a 3), .inl (E.2.1, 8, .inl (d 1))), ((a 4), .inl (E.2.1, 8, .inl (d 2))), ((a 5), .inl (E.2.1, 8, .inl (d 3)))]) rfl (fun _ => rfl) rfl (Nat.le_of_ble_eq_true rfl) ⟨Nat.le_of_ble_eq_true rfl, Nat.le_of_ble_eq_true rfl⟩ rfl dX2_setWithOneAt_20 (fun r_1 _ e_2 => ?_)
    subst e_2
    refine x_iload_n C dX2_setWithOneAt_23 3 rfl ?_
    refine x_ishl C dX2_setWithOneAt_24 ?_
    refine x_ior C dX2_setWithOneAt_25 ?_
    refine x_istore_n (lv1 := [(2, .int ((onS (d 0) q k) ||| ((((d 0 k) >>> (q &&& 31)) &&& 1) <<< ((nI k) &&& 31)))), (0, .ref (a 1)), (1, .int q), (3, .int (nI k))]) C dX2_setWithOneAt_26 (by decide) rfl ?_
    refine x_iinc (j := 3) (v := (nI (k + 1))) (lv1 := [(3, .int (nI (k + 1))), (2, .int ((onS (d 0) q k) ||| ((((d 0 k) >>> (q &&& 31)) &&& 1) <<< ((nI k) &&& 31)))), (0, .ref (a 1)), (1, .int q)]) C dX2_setWithOneAt_27 rfl (nI_1 _) (by decide) rfl ?_
    refine x_goto (tgt := 4) C dX2_setWithOneAt_30 (by decide) ?_
    refine Wd.locs (lv1 := [(0, .ref (a 1)), (1, .int q), (2, .int ((onS (d 0) q k) ||| ((((d 0 k) >>> (q &&& 31)) &&& 1) <<< ((nI k) &&& 31)))), (3, .int (nI (k + 1)))]) [2, 3, 1, 0] rfl ?_
    exact Wd.cast (w1 := [((a 1), .inr (2, [.ref (a 2), .ref (a 3), .ref (a 4), .ref (a 5), .int (d 4 0)])), ((a 2), .inl (E.2.1, 8, .inl (d 0))), ((a 3), .inl (E.2.1, 8, .inl (d 1))), ((a 4), .inl (E.2.1, 8, .inl (d 2))), ((a 5), .inl (E.2.1, 8, .inl (d 3)))]) (lv1 := [(0, .ref (a 1)), (1, .int q), (2, .int (onS (d 0) q (k + 1))), (3, .int (nI (k + 1)))]) rfl rfl rfl (ih trivial)
set_option maxHeartbeats 4000000 in
set_option maxRecDepth 100000 in
theorem c_X2_membersOf (l : Launch) (E : gE) (a : Nat → Nat) (d : Nat → Nat → Int32) (q : Int32) (n : Nat) (hn : d 4 0 = nI n) (h8 : n ≤ 8) : CtI l E yX2_membersOf prog_4_method_11_code 4 (some .int) 0 0 0 0 [.ref (a 1), .int q] [((a 1), .inr (2, [.ref (a 2), .ref (a 3), .ref (a 4), .ref (a 5), .int (d 4 0)])), ((a 2), .inl (E.2.1, 8, .inl (d 0))), ((a 3), .inl (E.2.1, 8, .inl (d 1))), ((a 4), .inl (E.2.1, 8, .inl (d 2))), ((a 5), .inl (E.2.1, 8, .inl (d 3)))] (fun r (_ : Unit) => r = memS (d 0) q n) (fun _ => [((a 1), .inr (2, [.ref (a 2), .ref (a 3), .ref (a 4), .ref (a 5), .int (d 4 0)])), ((a 2), .inl (E.2.1, 8, .inl (d 0))), ((a 3), .inl (E.2.1, 8, .inl (d 1))), ((a 4), .inl (E.2.1, 8, .inl (d 2))), ((a 5), .inl (E.2.1, 8, .inl (d 3)))]) := by
  refine CtI.start (by decide) (Nat.le_of_ble_eq_true rfl) ?_
  intro p_ e_ s_ m_ below_ meth_ c_ A_ C hr hlocks hnm
  refine Wd.cast (lv1 := [(0, .ref (a 1)), (1, .int q)]) rfl rfl rfl ?_
  refine x_iconst (v := 0) C dX2_membersOf_0 (by decide) ?_
  refine x_istore_n (lv1 := [(2, .int 0), (0, .ref (a 1)), (1, .int q)]) C dX2_membersOf_1 (by decide) rfl ?_
  refine x_iconst (v := 0) C dX2_membersOf_2 (by decide) ?_
  refine x_istore_n (lv1 := [(3, .int 0), (2, .int 0), (0, .ref (a 1)), (1, .int q)]) C dX2_membersOf_3 (by decide) rfl ?_
  refine Wd.locs (lv1 := [(0, .ref (a 1)), (1, .int q), (2, .int 0), (3, .int 0)]) [2, 3, 1, 0] rfl ?_
  refine Wd.cast (w1 := [((a 1), .inr (2, [.ref (a 2), .ref (a 3), .ref (a 4), .ref (a 5), .int (d 4 0)])), ((a 2), .inl (E.2.1, 8, .inl (d 0))), ((a 3), .inl (E.2.1, 8, .inl (d 1))), ((a 4), .inl (E.2.1, 8, .inl (d 2))), ((a 5), .inl (E.2.1, 8, .inl (d 3)))]) (lv1 := [(0, .ref (a 1)), (1, .int q), (2, .int (memS (d 0) q 0)), (3, .int (nI 0))]) rfl rfl rfl ?_
  refine Wd.up (W1 := fun k => [((a 1), .inr (2, [.ref (a 2), .ref (a 3), .ref (a 4), .ref (a 5), .int (d 4 0)])), ((a 2), .inl (E.2.1, 8, .inl (d 0))), ((a 3), .inl (E.2.1, 8, .inl (d 1))), ((a 4), .inl (E.2.1, 8, .inl (d 2))), ((a 5), .inl (E.2.1, 8, .inl (d 3)))]) (LV := fun k => [(0, .ref (a 1)), (1, .int q), (2, .int (memS (d 0) q k)), (3, .int (nI k))]) (fun k => True) 0 n (by omega) (trivial) (fun hI => ?_) (fun k hk0 hk hI ih => ?_)
  · refine Wd.cast (w1 := [((a 1), .inr (2, [.ref (a 2), .ref (a 3), .ref (a 4), .ref (a 5), .int (d 4 0)])), ((a 2), .inl (E.2.1, 8, .inl (d 0))), ((a 3), .inl (E.2.1, 8, .inl (d 1))), ((a 4), .inl (E.2.1, 8, .inl (d 2))), ((a 5), .inl (E.2.1, 8, .inl (d 3)))]) (lv1 := [(0, .ref (a 1)), (1, .int q), (2, .int (memS (d 0) q n)), (3, .int (nI n))]) rfl rfl rfl ?_
    refine x_iload_n C dX2_membersOf_4 3 rfl ?_
    refine x_aload_n C dX2_membersOf_5 0 rfl ?_
    refine x_get (ref := "RomSearchBus$Devices") (v := .int (d 4 0)) C inX2 0 4 rfl rfl (by decide) kw_fl_X2_24 rfl rfl dX2_membersOf_6 ?_
    refine x_icmp_ge (tgt := 34) C dX2_membersOf_9 (by decide) (fun c_9 => ?_) (fun c_9 => absurd (by rw [hn]; exact Int32.le_refl _) c_9)
    refine x_iload_n C dX2_membersOf_34 2 rfl ?_
    exact x_iret C hr hlocks rfl () rfl (gEq.rf _) dX2_membersOf_35
  · refine Wd.cast (w1 := [((a 1), .inr (2, [.ref (a 2), .ref (a 3), .ref (a 4), .ref (a 5), .int (d 4 0)])), ((a 2), .inl (E.2.1, 8, .inl (d 0))), ((a 3), .inl (E.2.1, 8, .inl (d 1))), ((a 4), .inl (E.2.1, 8, .inl (d 2))), ((a 5), .inl (E.2.1, 8, .inl (d 3)))]) (lv1 := [(0, .ref (a 1)), (1, .int q), (2, .int (memS (d 0) q k)), (3, .int (nI k))]) rfl rfl rfl ?_
    refine x_iload_n C dX2_membersOf_4 3 rfl ?_
    refine x_aload_n C dX2_membersOf_5 0 rfl ?_
    refine x_get (ref := "RomSearchBus$Devices") (v := .int (d 4 0)) C inX2 0 4 rfl rfl (by decide) kw_fl_X2_24 rfl rfl dX2_membersOf_6 ?_
    refine x_icmp_ge (tgt := 34) C dX2_membersOf_9 (by decide) (fun c_9 => absurd c_9 (by rw [hn]; exact nI_ge hk (by omega))) (fun c_9 => ?_)
    refine x_aload_n C dX2_membersOf_12 0 rfl ?_
    refine x_get (ref := "RomSearchBus$Devices") (v := .ref (a 2)) C inX2 0 0 rfl rfl (by decide) kw_fl_X2_11 rfl rfl dX2_membersOf_13 ?_
    refine x_iload_n C dX2_membersOf_16 3 rfl ?_
    refine x_ialdN (x := (d 0 k)) C 1 rfl rfl (by omega) (by decide) rfl dX2_membersOf_17 ?_
    refine x_bipush (v := 15) C dX2_membersOf_18 (by decide) ?_
    refine x_iand C dX2_membersOf_20 ?_
    refine x_iload_n C dX2_membersOf_21 1 rfl ?_
    refine x_icmp_ne (tgt := 28) C dX2_membersOf_22 (by decide) (fun c_22 => ?_) (fun c_22 => ?_)
    · refine x_iinc (j := 3) (v := (nI (k + 1))) (lv1 := [(3, .int (nI (k + 1))), (0, .ref (a 1)), (1, .int q), (2, .int (memS (d 0) q k))]) C dX2_membersOf_28 rfl (nI_1 _) (by decide) rfl ?_
      refine x_goto (tgt := 4) C dX2_membersOf_31 (by decide) ?_
      refine Wd.locs (lv1 := [(0, .ref (a 1)), (1, .int q), (2, .int (memS (d 0) q k)), (3, .int (nI (k + 1)))]) [1, 2, 3, 0] rfl ?_
      have w_1 : memS (d 0) q k = memS (d 0) q (k + 1) := (by rw [memS_s, if_neg c_22])
      exact Wd.cast (w1 := [((a 1), .inr (2, [.ref (a 2), .ref (a 3), .ref (a 4), .ref (a 5), .int (d 4 0)])), ((a 2), .inl (E.2.1, 8, .inl (d 0))), ((a 3), .inl (E.2.1, 8, .inl (d 1))), ((a 4), .inl (E.2.1, 8, .inl (d 2))), ((a 5), .inl (E.2.1, 8, .inl (d 3)))]) (lv1 := [(0, .ref (a 1)), (1, .int q), (2, .int (memS (d 0) q (k + 1))), (3, .int (nI (k + 1)))]) rfl (by first | (rw [w_1]; done) | (rw [← w_1]; done) | simp only [w_1]) rfl (ih trivial)
    · refine x_iinc (j := 2) (v := ((memS (d 0) q k) + 1)) (lv1 := [(2, .int ((memS (d 0) q k) + 1)), (0, .ref (a 1)), (1, .int q), (3, .int (nI k))]) C dX2_membersOf_25 rfl rfl (by decide) rfl ?_
      refine x_iinc (j := 3) (v := (nI (k + 1))) (lv1 := [(3, .int (nI (k + 1))), (2, .int ((memS (d 0) q k) + 1)), (0, .ref (a 1)), (1, .int q)]) C dX2_membersOf_28 rfl (nI_1 _) (by decide) rfl ?_
      refine x_goto (tgt := 4) C dX2_membersOf_31 (by decide) ?_
      refine Wd.locs (lv1 := [(0, .ref (a 1)), (1, .int q), (2, .int ((memS (d 0) q k) + 1)), (3, .int (nI (k + 1)))]) [2, 3, 1, 0] rfl ?_
      have w_2 : ((memS (d 0) q k) + 1) = memS (d 0) q (k + 1) := (by rw [memS_s, if_pos c_22])
      exact Wd.cast (w1 := [((a 1), .inr (2, [.ref (a 2), .ref (a 3), .ref (a 4), .ref (a 5), .int (d 4 0)])), ((a 2), .inl (E.2.1, 8, .inl (d 0))), ((a 3), .inl (E.2.1, 8, .inl (d 1))), ((a 4), .inl (E.2.1, 8, .inl (d 2))), ((a 5), .inl (E.2.1, 8, .inl (d 3)))]) (lv1 := [(0, .ref (a 1)), (1, .int q), (2, .int (memS (d 0) q (k + 1))), (3, .int (nI (k + 1)))]) rfl (by first | (rw [w_2]; done) | (rw [← w_2]; done) | simp only [w_2]) rfl (ih trivial)
set_option maxHeartbeats 4000000 in
set_option maxRecDepth 100000 in
theorem c_X2_hasRom (l : Launch) (E : gE) (a : Nat → Nat) (d : Nat → Nat → Int32) (q : Int32) (n : Nat) (hn : d 4 0 = nI n) (h8 : n ≤ 8) : CtI l E yX2_hasRom prog_4_method_13_code 3 (some .boolean) 0 0 0 0 [.ref (a 1), .int q] [((a 1), .inr (2, [.ref (a 2), .ref (a 3), .ref (a 4), .ref (a 5), .int (d 4 0)])), ((a 2), .inl (E.2.1, 8, .inl (d 0))), ((a 3), .inl (E.2.1, 8, .inl (d 1))), ((a 4), .inl (E.2.1, 8, .inl (d 2))), ((a 5), .inl (E.2.1, 8, .inl (d 3)))] (fun r (_ : Unit) => r = (if hasS (d 0) q n = true then 1 else 0)) (fun _ => [((a 1), .inr (2, [.ref (a 2), .ref (a 3), .ref (a 4), .ref (a 5), .int (d 4 0)])), ((a 2), .inl (E.2.1, 8, .inl (d 0))), ((a 3), .inl (E.2.1, 8, .inl (d 1))), ((a 4), .inl (E.2.1, 8, .inl (d 2))), ((a 5), .inl (E.2.1, 8, .inl (d 3)))]) := by
  refine CtI.start (by decide) (Nat.le_of_ble_eq_true rfl) ?_
  intro p_ e_ s_ m_ below_ meth_ c_ A_ C hr hlocks hnm
  refine Wd.cast (lv1 := [(0, .ref (a 1)), (1, .int q)]) rfl rfl rfl ?_
  refine x_iconst (v := 0) C dX2_hasRom_0 (by decide) ?_
  refine x_istore_n (lv1 := [(2, .int 0), (0, .ref (a 1)), (1, .int q)]) C dX2_hasRom_1 (by decide) rfl ?_
  refine Wd.locs (lv1 := [(0, .ref (a 1)), (1, .int q), (2, .int 0)]) [1, 2, 0] rfl ?_
  refine Wd.cast (w1 := [((a 1), .inr (2, [.ref (a 2), .ref (a 3), .ref (a 4), .ref (a 5), .int (d 4 0)])), ((a 2), .inl (E.2.1, 8, .inl (d 0))), ((a 3), .inl (E.2.1, 8, .inl (d 1))), ((a 4), .inl (E.2.1, 8, .inl (d 2))), ((a 5), .inl (E.2.1, 8, .inl (d 3)))]) (lv1 := [(0, .ref (a 1)), (1, .int q), (2, .int (nI 0))]) rfl rfl rfl ?_
  refine Wd.up (W1 := fun k => [((a 1), .inr (2, [.ref (a 2), .ref (a 3), .ref (a 4), .ref (a 5), .int (d 4 0)])), ((a 2), .inl (E.2.1, 8, .inl (d 0))), ((a 3), .inl (E.2.1, 8, .inl (d 1))), ((a 4), .inl (E.2.1, 8, .inl (d 2))), ((a 5), .inl (E.2.1, 8, .inl (d 3)))]) (LV := fun k => [(0, .ref (a 1)), (1, .int q), (2, .int (nI k))]) (fun k => hasS (d 0) q k = false) 0 n (by omega) (rfl) (fun hI => ?_) (fun k hk0 hk hI ih => ?_)
  · refine Wd.cast (w1 := [((a 1), .inr (2, [.ref (a 2), .ref (a 3), .ref (a 4), .ref (a 5), .int (d 4 0)])), ((a 2), .inl (E.2.1, 8, .inl (d 0))), ((a 3), .inl (E.2.1, 8, .inl (d 1))), ((a 4), .inl (E.2.1, 8, .inl (d 2))), ((a 5), .inl (E.2.1, 8, .inl (d 3)))]) (lv1 := [(0, .ref (a 1)), (1, .int q), (2, .int (nI n))]) rfl rfl rfl ?_
    refine x_iload_n C dX2_hasRom_2 2 rfl ?_
    refine x_aload_n C dX2_hasRom_3 0 rfl ?_
    refine x_get (ref := "RomSearchBus$Devices") (v := .int (d 4 0)) C inX2 0 4 rfl rfl (by decide) kw_fl_X2_24 rfl rfl dX2_hasRom_4 ?_
    refine x_icmp_ge (tgt := 28) C dX2_hasRom_7 (by decide) (fun c_7 => ?_) (fun c_7 => absurd (by rw [hn]; exact Int32.le_refl _) c_7)
    refine x_iconst (v := 0) C dX2_hasRom_28 (by decide) ?_
    exact x_iret C hr hlocks rfl () (if_neg (by rw [hI]; decide)).symm (gEq.rf _) dX2_hasRom_29
  · refine Wd.cast (w1 := [((a 1), .inr (2, [.ref (a 2), .ref (a 3), .ref (a 4), .ref (a 5), .int (d 4 0)])), ((a 2), .inl (E.2.1, 8, .inl (d 0))), ((a 3), .inl (E.2.1, 8, .inl (d 1))), ((a 4), .inl (E.2.1, 8, .inl (d 2))), ((a 5), .inl (E.2.1, 8, .inl (d 3)))]) (lv1 := [(0, .ref (a 1)), (1, .int q), (2, .int (nI k))]) rfl rfl rfl ?_
    refine x_iload_n C dX2_hasRom_2 2 rfl ?_
    refine x_aload_n C dX2_hasRom_3 0 rfl ?_
    refine x_get (ref := "RomSearchBus$Devices") (v := .int (d 4 0)) C inX2 0 4 rfl rfl (by decide) kw_fl_X2_24 rfl rfl dX2_hasRom_4 ?_
    refine x_icmp_ge (tgt := 28) C dX2_hasRom_7 (by decide) (fun c_7 => absurd c_7 (by rw [hn]; exact nI_ge hk (by omega))) (fun c_7 => ?_)
    refine x_aload_n C dX2_hasRom_10 0 rfl ?_
    refine x_get (ref := "RomSearchBus$Devices") (v := .ref (a 2)) C inX2 0 0 rfl rfl (by decide) kw_fl_X2_11 rfl rfl dX2_hasRom_11 ?_
    refine x_iload_n C dX2_hasRom_14 2 rfl ?_
    refine x_ialdN (x := (d 0 k)) C 1 rfl rfl (by omega) (by decide) rfl dX2_hasRom_15 ?_
    refine x_iload_n C dX2_hasRom_16 1 rfl ?_
    refine x_icmp_ne (tgt := 22) C dX2_hasRom_17 (by decide) (fun c_17 => ?_) (fun c_17 => ?_)
    · refine x_iinc (j := 2) (v := (nI (k + 1))) (lv1 := [(2, .int (nI (k + 1))), (0, .ref (a 1)), (1, .int q)]) C dX2_hasRom_22 rfl (nI_1 _) (by decide) rfl ?_
      refine x_goto (tgt := 2) C dX2_hasRom_25 (by decide) ?_
      refine Wd.locs (lv1 := [(0, .ref (a 1)), (1, .int q), (2, .int (nI (k + 1)))]) [1, 2, 0] rfl ?_
      exact Wd.cast (w1 := [((a 1), .inr (2, [.ref (a 2), .ref (a 3), .ref (a 4), .ref (a 5), .int (d 4 0)])), ((a 2), .inl (E.2.1, 8, .inl (d 0))), ((a 3), .inl (E.2.1, 8, .inl (d 1))), ((a 4), .inl (E.2.1, 8, .inl (d 2))), ((a 5), .inl (E.2.1, 8, .inl (d 3)))]) (lv1 := [(0, .ref (a 1)), (1, .int q), (2, .int (nI (k + 1)))]) rfl rfl rfl (ih (by rw [hasS_s, if_neg (by simpa using c_17)]; exact hI))
    · refine x_iconst (v := 1) C dX2_hasRom_20 (by decide) ?_
      exact x_iret C hr hlocks rfl () (if_pos (hasS_t (by simpa using c_17) hk)).symm (gEq.rf _) dX2_hasRom_21
set_option maxHeartbeats 4000000 in
set_option maxRecDepth 100000 in
theorem c_X2_mixInto (l : Launch) (E : gE) (a : Nat → Nat) (d : Nat → Nat → Int32) (z : Int64) (n : Nat) (hn : d 4 0 = nI n) (h8 : n ≤ 8) : CtL l E yX2_mixInto prog_4_method_12_code 6 (some .long) 1 22 0 0 [.ref (a 1), .long z] [((a 1), .inr (2, [.ref (a 2), .ref (a 3), .ref (a 4), .ref (a 5), .int (d 4 0)])), ((a 2), .inl (E.2.1, 8, .inl (d 0))), ((a 3), .inl (E.2.1, 8, .inl (d 1))), ((a 4), .inl (E.2.1, 8, .inl (d 2))), ((a 5), .inl (E.2.1, 8, .inl (d 3)))] (fun r (_ : Unit) => r = mixD d z n) (fun _ => [((a 1), .inr (2, [.ref (a 2), .ref (a 3), .ref (a 4), .ref (a 5), .int (d 4 0)])), ((a 2), .inl (E.2.1, 8, .inl (d 0))), ((a 3), .inl (E.2.1, 8, .inl (d 1))), ((a 4), .inl (E.2.1, 8, .inl (d 2))), ((a 5), .inl (E.2.1, 8, .inl (d 3)))]) := by
  refine CtL.start (by decide) (Nat.le_of_ble_eq_true rfl) ?_
  intro p_ e_ s_ m_ below_ meth_ c_ A_ C hr hlocks hnm
  refine Wd.cast (lv1 := [(0, .ref (a 1)), (1, .long z)]) rfl rfl rfl ?_
  refine x_lload_n C dX2_mixInto_0 1 rfl ?_
  refine x_aload_n C dX2_mixInto_1 0 rfl ?_
  refine x_get (ref := "RomSearchBus$Devices") (v := .int (d 4 0)) C inX2 0 4 rfl rfl (by decide) kw_fl_X2_24 rfl rfl dX2_mixInto_2 ?_
  refine x_callNL (wc := []) (wr := [((a 1), .inr (2, [.ref (a 2), .ref (a 3), .ref (a 4), .ref (a 5), .int (d 4 0)])), ((a 2), .inl (E.2.1, 8, .inl (d 0))), ((a 3), .inl (E.2.1, 8, .inl (d 1))), ((a 4), .inl (E.2.1, 8, .inl (d 2))), ((a 5), .inl (E.2.1, 8, .inl (d 3)))]) (As := [.long z, .int (d 4 0)]) (rest := []) C (c_X5_mixed l E z (d 4 0) ) (gWN (host := RX5) C (by unfold gNest; exact List.mem_of_getElem? (i := 7) rfl) kw_st_X5_mixed kw_ini_X5 kw_code_X5_mixed ga_X5_mixed ⟨Nat.le_of_ble_eq_true rfl, Nat.le_of_ble_eq_true rfl⟩) [] [0, 1, 2, 3, 4] [0, 1, 2, 3, 4] rfl rfl rfl rfl (by decide) (fun _ => [((a 1), .inr (2, [.ref (a 2), .ref (a 3), .ref (a 4), .ref (a 5), .int (d 4 0)])), ((a 2), .inl (E.2.1, 8, .inl (d 0))), ((a 3), .inl (E.2.1, 8, .inl (d 1))), ((a 4), .inl (E.2.1, 8, .inl (d 2))), ((a 5), .inl (E.2.1, 8, .inl (d 3)))]) rfl (fun _ => rfl) rfl (Nat.le_of_ble_eq_true rfl) ⟨Nat.le_of_ble_eq_true rfl, Nat.le_of_ble_eq_true rfl⟩ rfl dX2_mixInto_5 (fun r_1 _ e_2 => ?_)
  subst e_2
  refine x_lstore_n (lv1 := [(3, .long (31 * z + (d 4 0).toInt64)), (0, .ref (a 1)), (1, .long z)]) C dX2_mixInto_8 (by decide) rfl ?_
  refine x_iconst (v := 0) C dX2_mixInto_9 (by decide) ?_
  refine x_istore (lv1 := [(5, .int 0), (3, .long (31 * z + (d 4 0).toInt64)), (0, .ref (a 1)), (1, .long z)]) C dX2_mixInto_10 (by decide) rfl ?_
  refine Wd.locs (lv1 := [(0, .ref (a 1)), (1, .long z), (3, .long (31 * z + (d 4 0).toInt64)), (5, .int 0)]) [2, 3, 1, 0] rfl ?_
  refine Wd.cast (w1 := [((a 1), .inr (2, [.ref (a 2), .ref (a 3), .ref (a 4), .ref (a 5), .int (d 4 0)])), ((a 2), .inl (E.2.1, 8, .inl (d 0))), ((a 3), .inl (E.2.1, 8, .inl (d 1))), ((a 4), .inl (E.2.1, 8, .inl (d 2))), ((a 5), .inl (E.2.1, 8, .inl (d 3)))]) (lv1 := [(0, .ref (a 1)), (1, .long z), (3, .long (mixD d z 0)), (5, .int (nI 0))]) rfl rfl rfl ?_
  refine Wd.up (W1 := fun k => [((a 1), .inr (2, [.ref (a 2), .ref (a 3), .ref (a 4), .ref (a 5), .int (d 4 0)])), ((a 2), .inl (E.2.1, 8, .inl (d 0))), ((a 3), .inl (E.2.1, 8, .inl (d 1))), ((a 4), .inl (E.2.1, 8, .inl (d 2))), ((a 5), .inl (E.2.1, 8, .inl (d 3)))]) (LV := fun k => [(0, .ref (a 1)), (1, .long z), (3, .long (mixD d z k)), (5, .int (nI k))]) (fun k => True) 0 n (by omega) (trivial) (fun hI => ?_) (fun k hk0 hk hI ih => ?_)
  · refine Wd.cast (w1 := [((a 1), .inr (2, [.ref (a 2), .ref (a 3), .ref (a 4), .ref (a 5), .int (d 4 0)])), ((a 2), .inl (E.2.1, 8, .inl (d 0))), ((a 3), .inl (E.2.1, 8, .inl (d 1))), ((a 4), .inl (E.2.1, 8, .inl (d 2))), ((a 5), .inl (E.2.1, 8, .inl (d 3)))]) (lv1 := [(0, .ref (a 1)), (1, .long z), (3, .long (mixD d z n)), (5, .int (nI n))]) rfl rfl rfl ?_
    refine x_iload C dX2_mixInto_12 3 rfl ?_
    refine x_aload_n C dX2_mixInto_14 0 rfl ?_
    refine x_get (ref := "RomSearchBus$Devices") (v := .int (d 4 0)) C inX2 0 4 rfl rfl (by decide) kw_fl_X2_24 rfl rfl dX2_mixInto_15 ?_
    refine x_icmp_ge (tgt := 75) C dX2_mixInto_18 (by decide) (fun c_18 => ?_) (fun c_18 => absurd (by rw [hn]; exact Int32.le_refl _) c_18)
    refine x_lload_n C dX2_mixInto_75 2 rfl ?_
    exact x_lret C hr hlocks () rfl (gEq.rf _) dX2_mixInto_76
  · refine Wd.cast (w1 := [((a 1), .inr (2, [.ref (a 2), .ref (a 3), .ref (a 4), .ref (a 5), .int (d 4 0)])), ((a 2), .inl (E.2.1, 8, .inl (d 0))), ((a 3), .inl (E.2.1, 8, .inl (d 1))), ((a 4), .inl (E.2.1, 8, .inl (d 2))), ((a 5), .inl (E.2.1, 8, .inl (d 3)))]) (lv1 := [(0, .ref (a 1)), (1, .long z), (3, .long (mixD d z k)), (5, .int (nI k))]) rfl rfl rfl ?_
    refine x_iload C dX2_mixInto_12 3 rfl ?_
    refine x_aload_n C dX2_mixInto_14 0 rfl ?_
    refine x_get (ref := "RomSearchBus$Devices") (v := .int (d 4 0)) C inX2 0 4 rfl rfl (by decide) kw_fl_X2_24 rfl rfl dX2_mixInto_15 ?_
    refine x_icmp_ge (tgt := 75) C dX2_mixInto_18 (by decide) (fun c_18 => absurd c_18 (by rw [hn]; exact nI_ge hk (by omega))) (fun c_18 => ?_)
    refine x_lload_n C dX2_mixInto_21 2 rfl ?_
    refine x_aload_n C dX2_mixInto_22 0 rfl ?_
    refine x_get (ref := "RomSearchBus$Devices") (v := .ref (a 2)) C inX2 0 0 rfl rfl (by decide) kw_fl_X2_11 rfl rfl dX2_mixInto_23 ?_
    refine x_iload C dX2_mixInto_26 3 rfl ?_
    refine x_ialdN (x := (d 0 k)) C 1 rfl rfl (by omega) (by decide) rfl dX2_mixInto_28 ?_
    refine x_callNL (wc := []) (wr := [((a 1), .inr (2, [.ref (a 2), .ref (a 3), .ref (a 4), .ref (a 5), .int (d 4 0)])), ((a 2), .inl (E.2.1, 8, .inl (d 0))), ((a 3), .inl (E.2.1, 8, .inl (d 1))), ((a 4), .inl (E.2.1, 8, .inl (d 2))), ((a 5), .inl (E.2.1, 8, .inl (d 3)))]) (As := [.long (mixD d z k), .int (d 0 k)]) (rest := []) C (c_X5_mixed l E (mixD d z k) (d 0 k) ) (gWN (host := RX5) C (by unfold gNest; exact List.mem_of_getElem? (i := 7) rfl) kw_st_X5_mixed kw_ini_X5 kw_code_X5_mixed ga_X5_mixed ⟨Nat.le_of_ble_eq_true rfl, Nat.le_of_ble_eq_true rfl⟩) [] [0, 1, 2, 3, 4] [0, 1, 2, 3, 4] rfl rfl rfl rfl (by decide) (fun _ => [((a 1), .inr (2, [.ref (a 2), .ref (a 3), .ref (a 4), .ref (a 5), .int (d 4 0)])), ((a 2), .inl (E.2.1, 8, .inl (d 0))), ((a 3), .inl (E.2.1, 8, .inl (d 1))), ((a 4), .inl (E.2.1, 8, .inl (d 2))), ((a 5), .inl (E.2.1, 8, .inl (d 3)))]) rfl (fun _ => rfl) rfl (Nat.le_of_ble_eq_true rfl) ⟨Nat.le_of_ble_eq_true rfl, Nat.le_of_ble_eq_true rfl⟩ rfl dX2_mixInto_29 (fun r_3 _ e_4 => ?_)
    subst e_4
    refine x_lstore_n (lv1 := [(3, .long (31 * (mixD d z k) + (d 0 k).toInt64)), (0, .ref (a 1)), (1, .long z), (5, .int (nI k))]) C dX2_mixInto_32 (by decide) rfl ?_
    refine x_lload_n C dX2_mixInto_33 0 rfl ?_
    refine x_aload_n C dX2_mixInto_34 1 rfl ?_
    refine x_get (ref := "RomSearchBus$Devices") (v := .ref (a 3)) C inX2 0 1 rfl rfl (by decide) kw_fl_X2_15 rfl rfl dX2_mixInto_35 ?_
    refine x_iload C dX2_mixInto_38 3 rfl ?_
    refine x_ialdN (x := (d 1 k)) C 2 rfl rfl (by omega) (by decide) rfl dX2_mixInto_40 ?_
    refine x_callNL (wc := []) (wr := [((a 1), .inr (2, [.ref (a 2), .ref (a 3), .ref (a 4), .ref (a 5), .int (d 4 0)])), ((a 2), .inl (E.2.1, 8, .inl (d 0))), ((a 3), .inl (E.2.1, 8, .inl (d 1))), ((a 4), .inl (E.2.1, 8, .inl (d 2))), ((a 5), .inl (E.2.1, 8, .inl (d 3)))]) (As := [.long (31 * (mixD d z k) + (d 0 k).toInt64), .int (d 1 k)]) (rest := []) C (c_X5_mixed l E (31 * (mixD d z k) + (d 0 k).toInt64) (d 1 k) ) (gWN (host := RX5) C (by unfold gNest; exact List.mem_of_getElem? (i := 7) rfl) kw_st_X5_mixed kw_ini_X5 kw_code_X5_mixed ga_X5_mixed ⟨Nat.le_of_ble_eq_true rfl, Nat.le_of_ble_eq_true rfl⟩) [] [0, 1, 2, 3, 4] [0, 1, 2, 3, 4] rfl rfl rfl rfl (by decide) (fun _ => [((a 1), .inr (2, [.ref (a 2), .ref (a 3), .ref (a 4), .ref (a 5), .int (d 4 0)])), ((a 2), .inl (E.2.1, 8, .inl (d 0))), ((a 3), .inl (E.2.1, 8, .inl (d 1))), ((a 4), .inl (E.2.1, 8, .inl (d 2))), ((a 5), .inl (E.2.1, 8, .inl (d 3)))]) rfl (fun _ => rfl) rfl (Nat.le_of_ble_eq_true rfl) ⟨Nat.le_of_ble_eq_true rfl, Nat.le_of_ble_eq_true rfl⟩ rfl dX2_mixInto_41 (fun r_5 _ e_6 => ?_)
    subst e_6
    refine x_lstore_n (lv1 := [(3, .long (31 * (31 * (mixD d z k) + (d 0 k).toInt64) + (d 1 k).toInt64)), (0, .ref (a 1)), (1, .long z), (5, .int (nI k))]) C dX2_mixInto_44 (by decide) rfl ?_
    refine x_lload_n C dX2_mixInto_45 0 rfl ?_
    refine x_aload_n C dX2_mixInto_46 1 rfl ?_
    refine x_get (ref := "RomSearchBus$Devices") (v := .ref (a 4)) C inX2 0 2 rfl rfl (by decide) kw_fl_X2_18 rfl rfl dX2_mixInto_47 ?_
    refine x_iload C dX2_mixInto_50 3 rfl ?_
    refine x_ialdN (x := (d 2 k)) C 3 rfl rfl (by omega) (by decide) rfl dX2_mixInto_52 ?_
    refine x_callNL (wc := []) (wr := [((a 1), .inr (2, [.ref (a 2), .ref (a 3), .ref (a 4), .ref (a 5), .int (d 4 0)])), ((a 2), .inl (E.2.1, 8, .inl (d 0))), ((a 3), .inl (E.2.1, 8, .inl (d 1))), ((a 4), .inl (E.2.1, 8, .inl (d 2))), ((a 5), .inl (E.2.1, 8, .inl (d 3)))]) (As := [.long (31 * (31 * (mixD d z k) + (d 0 k).toInt64) + (d 1 k).toInt64), .int (d 2 k)]) (rest := []) C (c_X5_mixed l E (31 * (31 * (mixD d z k) + (d 0 k).toInt64) + (d 1 k).toInt64) (d 2 k) ) (gWN (host := RX5) C (by unfold gNest; exact List.mem_of_getElem? (i := 7) rfl) kw_st_X5_mixed kw_ini_X5 kw_code_X5_mixed ga_X5_mixed ⟨Nat.le_of_ble_eq_true rfl, Nat.le_of_ble_eq_true rfl⟩) [] [0, 1, 2, 3, 4] [0, 1, 2, 3, 4] rfl rfl rfl rfl (by decide) (fun _ => [((a 1), .inr (2, [.ref (a 2), .ref (a 3), .ref (a 4), .ref (a 5), .int (d 4 0)])), ((a 2), .inl (E.2.1, 8, .inl (d 0))), ((a 3), .inl (E.2.1, 8, .inl (d 1))), ((a 4), .inl (E.2.1, 8, .inl (d 2))), ((a 5), .inl (E.2.1, 8, .inl (d 3)))]) rfl (fun _ => rfl) rfl (Nat.le_of_ble_eq_true rfl) ⟨Nat.le_of_ble_eq_true rfl, Nat.le_of_ble_eq_true rfl⟩ rfl dX2_mixInto_53 (fun r_7 _ e_8 => ?_)
    subst e_8
    refine x_lstore_n (lv1 := [(3, .long (31 * (31 * (31 * (mixD d z k) + (d 0 k).toInt64) + (d 1 k).toInt64) + (d 2 k).toInt64)), (0, .ref (a 1)), (1, .long z), (5, .int (nI k))]) C dX2_mixInto_56 (by decide) rfl ?_
    refine x_lload_n C dX2_mixInto_57 0 rfl ?_
    refine x_aload_n C dX2_mixInto_58 1 rfl ?_
    refine x_get (ref := "RomSearchBus$Devices") (v := .ref (a 5)) C inX2 0 3 rfl rfl (by decide) kw_fl_X2_21 rfl rfl dX2_mixInto_59 ?_
    refine x_iload C dX2_mixInto_62 3 rfl ?_
    refine x_ialdN (x := (d 3 k)) C 4 rfl rfl (by omega) (by decide) rfl dX2_mixInto_64 ?_
    refine x_callNL (wc := []) (wr := [((a 1), .inr (2, [.ref (a 2), .ref (a 3), .ref (a 4), .ref (a 5), .int (d 4 0)])), ((a 2), .inl (E.2.1, 8, .inl (d 0))), ((a 3), .inl (E.2.1, 8, .inl (d 1))), ((a 4), .inl (E.2.1, 8, .inl (d 2))), ((a 5), .inl (E.2.1, 8, .inl (d 3)))]) (As := [.long (31 * (31 * (31 * (mixD d z k) + (d 0 k).toInt64) + (d 1 k).toInt64) + (d 2 k).toInt64), .int (d 3 k)]) (rest := []) C (c_X5_mixed l E (31 * (31 * (31 * (mixD d z k) + (d 0 k).toInt64) + (d 1 k).toInt64) + (d 2 k).toInt64) (d 3 k) ) (gWN (host := RX5) C (by unfold gNest; exact List.mem_of_getElem? (i := 7) rfl) kw_st_X5_mixed kw_ini_X5 kw_code_X5_mixed ga_X5_mixed ⟨Nat.le_of_ble_eq_true rfl, Nat.le_of_ble_eq_true rfl⟩) [] [0, 1, 2, 3, 4] [0, 1, 2, 3, 4] rfl rfl rfl rfl (by decide) (fun _ => [((a 1), .inr (2, [.ref (a 2), .ref (a 3), .ref (a 4), .ref (a 5), .int (d 4 0)])), ((a 2), .inl (E.2.1, 8, .inl (d 0))), ((a 3), .inl (E.2.1, 8, .inl (d 1))), ((a 4), .inl (E.2.1, 8, .inl (d 2))), ((a 5), .inl (E.2.1, 8, .inl (d 3)))]) rfl (fun _ => rfl) rfl (Nat.le_of_ble_eq_true rfl) ⟨Nat.le_of_ble_eq_true rfl, Nat.le_of_ble_eq_true rfl⟩ rfl dX2_mixInto_65 (fun r_9 _ e_10 => ?_)
    subst e_10
    refine x_lstore_n (lv1 := [(3, .long (31 * (31 * (31 * (31 * (mixD d z k) + (d 0 k).toInt64) + (d 1 k).toInt64) + (d 2 k).toInt64) + (d 3 k).toInt64)), (0, .ref (a 1)), (1, .long z), (5, .int (nI k))]) C dX2_mixInto_68 (by decide) rfl ?_
    refine x_iinc (j := 3) (v := (nI (k + 1))) (lv1 := [(5, .int (nI (k + 1))), (3, .long (31 * (31 * (31 * (31 * (mixD d z k) + (d 0 k).toInt64) + (d 1 k).toInt64) + (d 2 k).toInt64) + (d 3 k).toInt64)), (0, .ref (a 1)), (1, .long z)]) C dX2_mixInto_69 rfl (nI_1 _) (by decide) rfl ?_
    refine x_goto (tgt := 12) C dX2_mixInto_72 (by decide) ?_
    refine Wd.locs (lv1 := [(0, .ref (a 1)), (1, .long z), (3, .long (31 * (31 * (31 * (31 * (mixD d z k) + (d 0 k).toInt64) + (d 1 k).toInt64) + (d 2 k).toInt64) + (d 3 k).toInt64)), (5, .int (nI (k + 1)))]) [2, 3, 1, 0] rfl ?_
    exact Wd.cast (w1 := [((a 1), .inr (2, [.ref (a 2), .ref (a 3), .ref (a 4), .ref (a 5), .int (d 4 0)])), ((a 2), .inl (E.2.1, 8, .inl (d 0))), ((a 3), .inl (E.2.1, 8, .inl (d 1))), ((a 4), .inl (E.2.1, 8, .inl (d 2))), ((a 5), .inl (E.2.1, 8, .inl (d 3)))]) (lv1 := [(0, .ref (a 1)), (1, .long z), (3, .long (mixD d z (k + 1))), (5, .int (nI (k + 1)))]) rfl rfl rfl (ih trivial)
set_option maxHeartbeats 4000000 in
set_option maxRecDepth 100000 in
theorem c_X2_closeGap_0 (l : Launch) (E : gE) (a : Nat → Nat) (d : Nat → Nat → Int32) (i : Int32) (K : Nat) (n : Nat) (hn : d 4 0 = nI n) (h8 : n ≤ 8) (hi : i = nI K) (hK : K < n) : CtV l E yX2_closeGap prog_4_method_14_code 4 none 0 0 0 0 [.ref (a 1), .ref (a 2), .int i] [((a 1), .inr (2, [.ref (a 2), .ref (a 3), .ref (a 4), .ref (a 5), .int (d 4 0)])), ((a 2), .inl (E.2.1, 8, .inl (d 0)))] (fun _ : Unit => True) (fun _ => [((a 1), .inr (2, [.ref (a 2), .ref (a 3), .ref (a 4), .ref (a 5), .int (d 4 0)])), ((a 2), .inl (E.2.1, 8, .inl (gap (d 0) K (n - 1))))]) := by
  refine CtV.start (by decide) (Nat.le_of_ble_eq_true rfl) ?_
  intro p_ e_ s_ m_ below_ meth_ c_ A_ C hr hlocks hnm
  refine Wd.cast (lv1 := [(0, .ref (a 1)), (1, .ref (a 2)), (2, .int i)]) rfl rfl rfl ?_
  refine x_iload_n C dX2_closeGap_0 2 rfl ?_
  refine x_istore_n (lv1 := [(3, .int i), (0, .ref (a 1)), (1, .ref (a 2)), (2, .int i)]) C dX2_closeGap_1 (by decide) rfl ?_
  refine Wd.locs (lv1 := [(0, .ref (a 1)), (1, .ref (a 2)), (2, .int i), (3, .int i)]) [1, 2, 3, 0] rfl ?_
  have w_1 : i = nI K := hi
  have w_2 : (d 0) = (gap (d 0) K K) := (gap_0 _ _).symm
  refine Wd.cast (w1 := [((a 1), .inr (2, [.ref (a 2), .ref (a 3), .ref (a 4), .ref (a 5), .int (d 4 0)])), ((a 2), .inl (E.2.1, 8, .inl (gap (d 0) K K)))]) (lv1 := [(0, .ref (a 1)), (1, .ref (a 2)), (2, .int i), (3, .int (nI K))]) (by first | (rw [w_2]; done) | (rw [← w_2]; done) | simp only [w_2]) (by first | (rw [w_1]; done) | (rw [← w_1]; done) | simp only [w_1]) rfl ?_
  refine Wd.up (W1 := fun k => [((a 1), .inr (2, [.ref (a 2), .ref (a 3), .ref (a 4), .ref (a 5), .int (d 4 0)])), ((a 2), .inl (E.2.1, 8, .inl (gap (d 0) K k)))]) (LV := fun k => [(0, .ref (a 1)), (1, .ref (a 2)), (2, .int i), (3, .int (nI k))]) (fun k => True) K (n - 1) (by omega) (trivial) (fun hI => ?_) (fun k hk0 hk hI ih => ?_)
  · refine Wd.cast (w1 := [((a 1), .inr (2, [.ref (a 2), .ref (a 3), .ref (a 4), .ref (a 5), .int (d 4 0)])), ((a 2), .inl (E.2.1, 8, .inl (gap (d 0) K (n - 1))))]) (lv1 := [(0, .ref (a 1)), (1, .ref (a 2)), (2, .int i), (3, .int (nI (n - 1)))]) rfl rfl rfl ?_
    refine x_iload_n C dX2_closeGap_2 3 rfl ?_
    refine x_iconst (v := 1) C dX2_closeGap_3 (by decide) ?_
    refine x_iadd C dX2_closeGap_4 ?_
    refine x_aload_n C dX2_closeGap_5 0 rfl ?_
    refine x_get (ref := "RomSearchBus$Devices") (v := .int (d 4 0)) C inX2 0 4 rfl rfl (by decide) kw_fl_X2_24 rfl rfl dX2_closeGap_6 ?_
    refine x_icmp_ge (tgt := 26) C dX2_closeGap_9 (by decide) (fun c_9 => ?_) (fun c_9 => absurd (by rw [hn, nI_1, show n - 1 + 1 = n by omega]; exact Int32.le_refl _) c_9)
    exact x_vret C hr hlocks () trivial (gEq.rf _) dX2_closeGap_26
  · refine Wd.cast (w1 := [((a 1), .inr (2, [.ref (a 2), .ref (a 3), .ref (a 4), .ref (a 5), .int (d 4 0)])), ((a 2), .inl (E.2.1, 8, .inl (gap (d 0) K k)))]) (lv1 := [(0, .ref (a 1)), (1, .ref (a 2)), (2, .int i), (3, .int (nI k))]) rfl rfl rfl ?_
    refine x_iload_n C dX2_closeGap_2 3 rfl ?_
    refine x_iconst (v := 1) C dX2_closeGap_3 (by decide) ?_
    refine x_iadd C dX2_closeGap_4 ?_
    refine x_aload_n C dX2_closeGap_5 0 rfl ?_
    refine x_get (ref := "RomSearchBus$Devices") (v := .int (d 4 0)) C inX2 0 4 rfl rfl (by decide) kw_fl_X2_24 rfl rfl dX2_closeGap_6 ?_
    refine x_icmp_ge (tgt := 26) C dX2_closeGap_9 (by decide) (fun c_9 => absurd c_9 (by rw [hn, nI_1]; exact nI_ge (by omega) (by omega))) (fun c_9 => ?_)
    refine x_aload_n C dX2_closeGap_12 1 rfl ?_
    refine x_iload_n C dX2_closeGap_13 3 rfl ?_
    refine x_aload_n C dX2_closeGap_14 1 rfl ?_
    refine x_iload_n C dX2_closeGap_15 3 rfl ?_
    refine x_iconst (v := 1) C dX2_closeGap_16 (by decide) ?_
    refine x_iadd C dX2_closeGap_17 ?_
    refine x_ialdN (x := ((gap (d 0) K k) (k + 1))) C 1 rfl (nI_1 k) (by omega) (by decide) rfl dX2_closeGap_18 ?_
    refine x_iastN C 1 rfl rfl (by omega) (by decide) [((a 1), .inr (2, [.ref (a 2), .ref (a 3), .ref (a 4), .ref (a 5), .int (d 4 0)])), ((a 2), .inl (E.2.1, 8, .inl (upd (gap (d 0) K k) k ((gap (d 0) K k) (k + 1)))))] rfl dX2_closeGap_19 ?_
    refine x_iinc (j := 3) (v := (nI (k + 1))) (lv1 := [(3, .int (nI (k + 1))), (0, .ref (a 1)), (1, .ref (a 2)), (2, .int i)]) C dX2_closeGap_20 rfl (nI_1 _) (by decide) rfl ?_
    refine x_goto (tgt := 2) C dX2_closeGap_23 (by decide) ?_
    refine Wd.locs (lv1 := [(0, .ref (a 1)), (1, .ref (a 2)), (2, .int i), (3, .int (nI (k + 1)))]) [1, 2, 3, 0] rfl ?_
    have w_3 : (upd (gap (d 0) K k) k ((gap (d 0) K k) (k + 1))) = (gap (d 0) K (k + 1)) := (gap_s _ hk0)
    exact Wd.cast (w1 := [((a 1), .inr (2, [.ref (a 2), .ref (a 3), .ref (a 4), .ref (a 5), .int (d 4 0)])), ((a 2), .inl (E.2.1, 8, .inl (gap (d 0) K (k + 1))))]) (lv1 := [(0, .ref (a 1)), (1, .ref (a 2)), (2, .int i), (3, .int (nI (k + 1)))]) (by first | (rw [w_3]; done) | (rw [← w_3]; done) | simp only [w_3]) rfl rfl (ih trivial)
set_option maxHeartbeats 4000000 in
set_option maxRecDepth 100000 in
theorem c_X2_closeGap_1 (l : Launch) (E : gE) (a : Nat → Nat) (d : Nat → Nat → Int32) (i : Int32) (K : Nat) (n : Nat) (hn : d 4 0 = nI n) (h8 : n ≤ 8) (hi : i = nI K) (hK : K < n) : CtV l E yX2_closeGap prog_4_method_14_code 4 none 0 0 0 0 [.ref (a 1), .ref (a 3), .int i] [((a 1), .inr (2, [.ref (a 2), .ref (a 3), .ref (a 4), .ref (a 5), .int (d 4 0)])), ((a 3), .inl (E.2.1, 8, .inl (d 1)))] (fun _ : Unit => True) (fun _ => [((a 1), .inr (2, [.ref (a 2), .ref (a 3), .ref (a 4), .ref (a 5), .int (d 4 0)])), ((a 3), .inl (E.2.1, 8, .inl (gap (d 1) K (n - 1))))]) := by
  refine CtV.start (by decide) (Nat.le_of_ble_eq_true rfl) ?_
  intro p_ e_ s_ m_ below_ meth_ c_ A_ C hr hlocks hnm
  refine Wd.cast (lv1 := [(0, .ref (a 1)), (1, .ref (a 3)), (2, .int i)]) rfl rfl rfl ?_
  refine x_iload_n C dX2_closeGap_0 2 rfl ?_
  refine x_istore_n (lv1 := [(3, .int i), (0, .ref (a 1)), (1, .ref (a 3)), (2, .int i)]) C dX2_closeGap_1 (by decide) rfl ?_
  refine Wd.locs (lv1 := [(0, .ref (a 1)), (1, .ref (a 3)), (2, .int i), (3, .int i)]) [1, 2, 3, 0] rfl ?_
  have w_1 : i = nI K := hi
  have w_2 : (d 1) = (gap (d 1) K K) := (gap_0 _ _).symm
  refine Wd.cast (w1 := [((a 1), .inr (2, [.ref (a 2), .ref (a 3), .ref (a 4), .ref (a 5), .int (d 4 0)])), ((a 3), .inl (E.2.1, 8, .inl (gap (d 1) K K)))]) (lv1 := [(0, .ref (a 1)), (1, .ref (a 3)), (2, .int i), (3, .int (nI K))]) (by first | (rw [w_2]; done) | (rw [← w_2]; done) | simp only [w_2]) (by first | (rw [w_1]; done) | (rw [← w_1]; done) | simp only [w_1]) rfl ?_
  refine Wd.up (W1 := fun k => [((a 1), .inr (2, [.ref (a 2), .ref (a 3), .ref (a 4), .ref (a 5), .int (d 4 0)])), ((a 3), .inl (E.2.1, 8, .inl (gap (d 1) K k)))]) (LV := fun k => [(0, .ref (a 1)), (1, .ref (a 3)), (2, .int i), (3, .int (nI k))]) (fun k => True) K (n - 1) (by omega) (trivial) (fun hI => ?_) (fun k hk0 hk hI ih => ?_)
  · refine Wd.cast (w1 := [((a 1), .inr (2, [.ref (a 2), .ref (a 3), .ref (a 4), .ref (a 5), .int (d 4 0)])), ((a 3), .inl (E.2.1, 8, .inl (gap (d 1) K (n - 1))))]) (lv1 := [(0, .ref (a 1)), (1, .ref (a 3)), (2, .int i), (3, .int (nI (n - 1)))]) rfl rfl rfl ?_
    refine x_iload_n C dX2_closeGap_2 3 rfl ?_
    refine x_iconst (v := 1) C dX2_closeGap_3 (by decide) ?_
    refine x_iadd C dX2_closeGap_4 ?_
    refine x_aload_n C dX2_closeGap_5 0 rfl ?_
    refine x_get (ref := "RomSearchBus$Devices") (v := .int (d 4 0)) C inX2 0 4 rfl rfl (by decide) kw_fl_X2_24 rfl rfl dX2_closeGap_6 ?_
    refine x_icmp_ge (tgt := 26) C dX2_closeGap_9 (by decide) (fun c_9 => ?_) (fun c_9 => absurd (by rw [hn, nI_1, show n - 1 + 1 = n by omega]; exact Int32.le_refl _) c_9)
    exact x_vret C hr hlocks () trivial (gEq.rf _) dX2_closeGap_26
  · refine Wd.cast (w1 := [((a 1), .inr (2, [.ref (a 2), .ref (a 3), .ref (a 4), .ref (a 5), .int (d 4 0)])), ((a 3), .inl (E.2.1, 8, .inl (gap (d 1) K k)))]) (lv1 := [(0, .ref (a 1)), (1, .ref (a 3)), (2, .int i), (3, .int (nI k))]) rfl rfl rfl ?_
    refine x_iload_n C dX2_closeGap_2 3 rfl ?_
    refine x_iconst (v := 1) C dX2_closeGap_3 (by decide) ?_
    refine x_iadd C dX2_closeGap_4 ?_
    refine x_aload_n C dX2_closeGap_5 0 rfl ?_
    refine x_get (ref := "RomSearchBus$Devices") (v := .int (d 4 0)) C inX2 0 4 rfl rfl (by decide) kw_fl_X2_24 rfl rfl dX2_closeGap_6 ?_
    refine x_icmp_ge (tgt := 26) C dX2_closeGap_9 (by decide) (fun c_9 => absurd c_9 (by rw [hn, nI_1]; exact nI_ge (by omega) (by omega))) (fun c_9 => ?_)
    refine x_aload_n C dX2_closeGap_12 1 rfl ?_
    refine x_iload_n C dX2_closeGap_13 3 rfl ?_
    refine x_aload_n C dX2_closeGap_14 1 rfl ?_
    refine x_iload_n C dX2_closeGap_15 3 rfl ?_
    refine x_iconst (v := 1) C dX2_closeGap_16 (by decide) ?_
    refine x_iadd C dX2_closeGap_17 ?_
    refine x_ialdN (x := ((gap (d 1) K k) (k + 1))) C 1 rfl (nI_1 k) (by omega) (by decide) rfl dX2_closeGap_18 ?_
    refine x_iastN C 1 rfl rfl (by omega) (by decide) [((a 1), .inr (2, [.ref (a 2), .ref (a 3), .ref (a 4), .ref (a 5), .int (d 4 0)])), ((a 3), .inl (E.2.1, 8, .inl (upd (gap (d 1) K k) k ((gap (d 1) K k) (k + 1)))))] rfl dX2_closeGap_19 ?_
    refine x_iinc (j := 3) (v := (nI (k + 1))) (lv1 := [(3, .int (nI (k + 1))), (0, .ref (a 1)), (1, .ref (a 3)), (2, .int i)]) C dX2_closeGap_20 rfl (nI_1 _) (by decide) rfl ?_
    refine x_goto (tgt := 2) C dX2_closeGap_23 (by decide) ?_
    refine Wd.locs (lv1 := [(0, .ref (a 1)), (1, .ref (a 3)), (2, .int i), (3, .int (nI (k + 1)))]) [1, 2, 3, 0] rfl ?_
    have w_3 : (upd (gap (d 1) K k) k ((gap (d 1) K k) (k + 1))) = (gap (d 1) K (k + 1)) := (gap_s _ hk0)
    exact Wd.cast (w1 := [((a 1), .inr (2, [.ref (a 2), .ref (a 3), .ref (a 4), .ref (a 5), .int (d 4 0)])), ((a 3), .inl (E.2.1, 8, .inl (gap (d 1) K (k + 1))))]) (lv1 := [(0, .ref (a 1)), (1, .ref (a 3)), (2, .int i), (3, .int (nI (k + 1)))]) (by first | (rw [w_3]; done) | (rw [← w_3]; done) | simp only [w_3]) rfl rfl (ih trivial)
set_option maxHeartbeats 4000000 in
set_option maxRecDepth 100000 in
theorem c_X2_closeGap_2 (l : Launch) (E : gE) (a : Nat → Nat) (d : Nat → Nat → Int32) (i : Int32) (K : Nat) (n : Nat) (hn : d 4 0 = nI n) (h8 : n ≤ 8) (hi : i = nI K) (hK : K < n) : CtV l E yX2_closeGap prog_4_method_14_code 4 none 0 0 0 0 [.ref (a 1), .ref (a 4), .int i] [((a 1), .inr (2, [.ref (a 2), .ref (a 3), .ref (a 4), .ref (a 5), .int (d 4 0)])), ((a 4), .inl (E.2.1, 8, .inl (d 2)))] (fun _ : Unit => True) (fun _ => [((a 1), .inr (2, [.ref (a 2), .ref (a 3), .ref (a 4), .ref (a 5), .int (d 4 0)])), ((a 4), .inl (E.2.1, 8, .inl (gap (d 2) K (n - 1))))]) := by
  refine CtV.start (by decide) (Nat.le_of_ble_eq_true rfl) ?_
  intro p_ e_ s_ m_ below_ meth_ c_ A_ C hr hlocks hnm
  refine Wd.cast (lv1 := [(0, .ref (a 1)), (1, .ref (a 4)), (2, .int i)]) rfl rfl rfl ?_
  refine x_iload_n C dX2_closeGap_0 2 rfl ?_
  refine x_istore_n (lv1 := [(3, .int i), (0, .ref (a 1)), (1, .ref (a 4)), (2, .int i)]) C dX2_closeGap_1 (by decide) rfl ?_
  refine Wd.locs (lv1 := [(0, .ref (a 1)), (1, .ref (a 4)), (2, .int i), (3, .int i)]) [1, 2, 3, 0] rfl ?_
  have w_1 : i = nI K := hi
  have w_2 : (d 2) = (gap (d 2) K K) := (gap_0 _ _).symm
  refine Wd.cast (w1 := [((a 1), .inr (2, [.ref (a 2), .ref (a 3), .ref (a 4), .ref (a 5), .int (d 4 0)])), ((a 4), .inl (E.2.1, 8, .inl (gap (d 2) K K)))]) (lv1 := [(0, .ref (a 1)), (1, .ref (a 4)), (2, .int i), (3, .int (nI K))]) (by first | (rw [w_2]; done) | (rw [← w_2]; done) | simp only [w_2]) (by first | (rw [w_1]; done) | (rw [← w_1]; done) | simp only [w_1]) rfl ?_
  refine Wd.up (W1 := fun k => [((a 1), .inr (2, [.ref (a 2), .ref (a 3), .ref (a 4), .ref (a 5), .int (d 4 0)])), ((a 4), .inl (E.2.1, 8, .inl (gap (d 2) K k)))]) (LV := fun k => [(0, .ref (a 1)), (1, .ref (a 4)), (2, .int i), (3, .int (nI k))]) (fun k => True) K (n - 1) (by omega) (trivial) (fun hI => ?_) (fun k hk0 hk hI ih => ?_)
  · refine Wd.cast (w1 := [((a 1), .inr (2, [.ref (a 2), .ref (a 3), .ref (a 4), .ref (a 5), .int (d 4 0)])), ((a 4), .inl (E.2.1, 8, .inl (gap (d 2) K (n - 1))))]) (lv1 := [(0, .ref (a 1)), (1, .ref (a 4)), (2, .int i), (3, .int (nI (n - 1)))]) rfl rfl rfl ?_
    refine x_iload_n C dX2_closeGap_2 3 rfl ?_
    refine x_iconst (v := 1) C dX2_closeGap_3 (by decide) ?_
    refine x_iadd C dX2_closeGap_4 ?_
    refine x_aload_n C dX2_closeGap_5 0 rfl ?_
    refine x_get (ref := "RomSearchBus$Devices") (v := .int (d 4 0)) C inX2 0 4 rfl rfl (by decide) kw_fl_X2_24 rfl rfl dX2_closeGap_6 ?_
    refine x_icmp_ge (tgt := 26) C dX2_closeGap_9 (by decide) (fun c_9 => ?_) (fun c_9 => absurd (by rw [hn, nI_1, show n - 1 + 1 = n by omega]; exact Int32.le_refl _) c_9)
    exact x_vret C hr hlocks () trivial (gEq.rf _) dX2_closeGap_26
  · refine Wd.cast (w1 := [((a 1), .inr (2, [.ref (a 2), .ref (a 3), .ref (a 4), .ref (a 5), .int (d 4 0)])), ((a 4), .inl (E.2.1, 8, .inl (gap (d 2) K k)))]) (lv1 := [(0, .ref (a 1)), (1, .ref (a 4)), (2, .int i), (3, .int (nI k))]) rfl rfl rfl ?_
    refine x_iload_n C dX2_closeGap_2 3 rfl ?_
    refine x_iconst (v := 1) C dX2_closeGap_3 (by decide) ?_
    refine x_iadd C dX2_closeGap_4 ?_
    refine x_aload_n C dX2_closeGap_5 0 rfl ?_
    refine x_get (ref := "RomSearchBus$Devices") (v := .int (d 4 0)) C inX2 0 4 rfl rfl (by decide) kw_fl_X2_24 rfl rfl dX2_closeGap_6 ?_
    refine x_icmp_ge (tgt := 26) C dX2_closeGap_9 (by decide) (fun c_9 => absurd c_9 (by rw [hn, nI_1]; exact nI_ge (by omega) (by omega))) (fun c_9 => ?_)
    refine x_aload_n C dX2_closeGap_12 1 rfl ?_
    refine x_iload_n C dX2_closeGap_13 3 rfl ?_
    refine x_aload_n C dX2_closeGap_14 1 rfl ?_
    refine x_iload_n C dX2_closeGap_15 3 rfl ?_
    refine x_iconst (v := 1) C dX2_closeGap_16 (by decide) ?_
    refine x_iadd C dX2_closeGap_17 ?_
    refine x_ialdN (x := ((gap (d 2) K k) (k + 1))) C 1 rfl (nI_1 k) (by omega) (by decide) rfl dX2_closeGap_18 ?_
    refine x_iastN C 1 rfl rfl (by omega) (by decide) [((a 1), .inr (2, [.ref (a 2), .ref (a 3), .ref (a 4), .ref (a 5), .int (d 4 0)])), ((a 4), .inl (E.2.1, 8, .inl (upd (gap (d 2) K k) k ((gap (d 2) K k) (k + 1)))))] rfl dX2_closeGap_19 ?_
    refine x_iinc (j := 3) (v := (nI (k + 1))) (lv1 := [(3, .int (nI (k + 1))), (0, .ref (a 1)), (1, .ref (a 4)), (2, .int i)]) C dX2_closeGap_20 rfl (nI_1 _) (by decide) rfl ?_
    refine x_goto (tgt := 2) C dX2_closeGap_23 (by decide) ?_
    refine Wd.locs (lv1 := [(0, .ref (a 1)), (1, .ref (a 4)), (2, .int i), (3, .int (nI (k + 1)))]) [1, 2, 3, 0] rfl ?_
    have w_3 : (upd (gap (d 2) K k) k ((gap (d 2) K k) (k + 1))) = (gap (d 2) K (k + 1)) := (gap_s _ hk0)
    exact Wd.cast (w1 := [((a 1), .inr (2, [.ref (a 2), .ref (a 3), .ref (a 4), .ref (a 5), .int (d 4 0)])), ((a 4), .inl (E.2.1, 8, .inl (gap (d 2) K (k + 1))))]) (lv1 := [(0, .ref (a 1)), (1, .ref (a 4)), (2, .int i), (3, .int (nI (k + 1)))]) (by first | (rw [w_3]; done) | (rw [← w_3]; done) | simp only [w_3]) rfl rfl (ih trivial)
set_option maxHeartbeats 4000000 in
set_option maxRecDepth 100000 in
theorem c_X2_closeGap_3 (l : Launch) (E : gE) (a : Nat → Nat) (d : Nat → Nat → Int32) (i : Int32) (K : Nat) (n : Nat) (hn : d 4 0 = nI n) (h8 : n ≤ 8) (hi : i = nI K) (hK : K < n) : CtV l E yX2_closeGap prog_4_method_14_code 4 none 0 0 0 0 [.ref (a 1), .ref (a 5), .int i] [((a 1), .inr (2, [.ref (a 2), .ref (a 3), .ref (a 4), .ref (a 5), .int (d 4 0)])), ((a 5), .inl (E.2.1, 8, .inl (d 3)))] (fun _ : Unit => True) (fun _ => [((a 1), .inr (2, [.ref (a 2), .ref (a 3), .ref (a 4), .ref (a 5), .int (d 4 0)])), ((a 5), .inl (E.2.1, 8, .inl (gap (d 3) K (n - 1))))]) := by
  refine CtV.start (by decide) (Nat.le_of_ble_eq_true rfl) ?_
  intro p_ e_ s_ m_ below_ meth_ c_ A_ C hr hlocks hnm
  refine Wd.cast (lv1 := [(0, .ref (a 1)), (1, .ref (a 5)), (2, .int i)]) rfl rfl rfl ?_
  refine x_iload_n C dX2_closeGap_0 2 rfl ?_
  refine x_istore_n (lv1 := [(3, .int i), (0, .ref (a 1)), (1, .ref (a 5)), (2, .int i)]) C dX2_closeGap_1 (by decide) rfl ?_
  refine Wd.locs (lv1 := [(0, .ref (a 1)), (1, .ref (a 5)), (2, .int i), (3, .int i)]) [1, 2, 3, 0] rfl ?_
  have w_1 : i = nI K := hi
  have w_2 : (d 3) = (gap (d 3) K K) := (gap_0 _ _).symm
  refine Wd.cast (w1 := [((a 1), .inr (2, [.ref (a 2), .ref (a 3), .ref (a 4), .ref (a 5), .int (d 4 0)])), ((a 5), .inl (E.2.1, 8, .inl (gap (d 3) K K)))]) (lv1 := [(0, .ref (a 1)), (1, .ref (a 5)), (2, .int i), (3, .int (nI K))]) (by first | (rw [w_2]; done) | (rw [← w_2]; done) | simp only [w_2]) (by first | (rw [w_1]; done) | (rw [← w_1]; done) | simp only [w_1]) rfl ?_
  refine Wd.up (W1 := fun k => [((a 1), .inr (2, [.ref (a 2), .ref (a 3), .ref (a 4), .ref (a 5), .int (d 4 0)])), ((a 5), .inl (E.2.1, 8, .inl (gap (d 3) K k)))]) (LV := fun k => [(0, .ref (a 1)), (1, .ref (a 5)), (2, .int i), (3, .int (nI k))]) (fun k => True) K (n - 1) (by omega) (trivial) (fun hI => ?_) (fun k hk0 hk hI ih => ?_)
  · refine Wd.cast (w1 := [((a 1), .inr (2, [.ref (a 2), .ref (a 3), .ref (a 4), .ref (a 5), .int (d 4 0)])), ((a 5), .inl (E.2.1, 8, .inl (gap (d 3) K (n - 1))))]) (lv1 := [(0, .ref (a 1)), (1, .ref (a 5)), (2, .int i), (3, .int (nI (n - 1)))]) rfl rfl rfl ?_
    refine x_iload_n C dX2_closeGap_2 3 rfl ?_
    refine x_iconst (v := 1) C dX2_closeGap_3 (by decide) ?_
    refine x_iadd C dX2_closeGap_4 ?_
    refine x_aload_n C dX2_closeGap_5 0 rfl ?_
    refine x_get (ref := "RomSearchBus$Devices") (v := .int (d 4 0)) C inX2 0 4 rfl rfl (by decide) kw_fl_X2_24 rfl rfl dX2_closeGap_6 ?_
    refine x_icmp_ge (tgt := 26) C dX2_closeGap_9 (by decide) (fun c_9 => ?_) (fun c_9 => absurd (by rw [hn, nI_1, show n - 1 + 1 = n by omega]; exact Int32.le_refl _) c_9)
    exact x_vret C hr hlocks () trivial (gEq.rf _) dX2_closeGap_26
  · refine Wd.cast (w1 := [((a 1), .inr (2, [.ref (a 2), .ref (a 3), .ref (a 4), .ref (a 5), .int (d 4 0)])), ((a 5), .inl (E.2.1, 8, .inl (gap (d 3) K k)))]) (lv1 := [(0, .ref (a 1)), (1, .ref (a 5)), (2, .int i), (3, .int (nI k))]) rfl rfl rfl ?_
    refine x_iload_n C dX2_closeGap_2 3 rfl ?_
    refine x_iconst (v := 1) C dX2_closeGap_3 (by decide) ?_
    refine x_iadd C dX2_closeGap_4 ?_
    refine x_aload_n C dX2_closeGap_5 0 rfl ?_
    refine x_get (ref := "RomSearchBus$Devices") (v := .int (d 4 0)) C inX2 0 4 rfl rfl (by decide) kw_fl_X2_24 rfl rfl dX2_closeGap_6 ?_
    refine x_icmp_ge (tgt := 26) C dX2_closeGap_9 (by decide) (fun c_9 => absurd c_9 (by rw [hn, nI_1]; exact nI_ge (by omega) (by omega))) (fun c_9 => ?_)
    refine x_aload_n C dX2_closeGap_12 1 rfl ?_
    refine x_iload_n C dX2_closeGap_13 3 rfl ?_
    refine x_aload_n C dX2_closeGap_14 1 rfl ?_
    refine x_iload_n C dX2_closeGap_15 3 rfl ?_
    refine x_iconst (v := 1) C dX2_closeGap_16 (by decide) ?_
    refine x_iadd C dX2_closeGap_17 ?_
    refine x_ialdN (x := ((gap (d 3) K k) (k + 1))) C 1 rfl (nI_1 k) (by omega) (by decide) rfl dX2_closeGap_18 ?_
    refine x_iastN C 1 rfl rfl (by omega) (by decide) [((a 1), .inr (2, [.ref (a 2), .ref (a 3), .ref (a 4), .ref (a 5), .int (d 4 0)])), ((a 5), .inl (E.2.1, 8, .inl (upd (gap (d 3) K k) k ((gap (d 3) K k) (k + 1)))))] rfl dX2_closeGap_19 ?_
    refine x_iinc (j := 3) (v := (nI (k + 1))) (lv1 := [(3, .int (nI (k + 1))), (0, .ref (a 1)), (1, .ref (a 5)), (2, .int i)]) C dX2_closeGap_20 rfl (nI_1 _) (by decide) rfl ?_
    refine x_goto (tgt := 2) C dX2_closeGap_23 (by decide) ?_
    refine Wd.locs (lv1 := [(0, .ref (a 1)), (1, .ref (a 5)), (2, .int i), (3, .int (nI (k + 1)))]) [1, 2, 3, 0] rfl ?_
    have w_3 : (upd (gap (d 3) K k) k ((gap (d 3) K k) (k + 1))) = (gap (d 3) K (k + 1)) := (gap_s _ hk0)
    exact Wd.cast (w1 := [((a 1), .inr (2, [.ref (a 2), .ref (a 3), .ref (a 4), .ref (a 5), .int (d 4 0)])), ((a 5), .inl (E.2.1, 8, .inl (gap (d 3) K (k + 1))))]) (lv1 := [(0, .ref (a 1)), (1, .ref (a 5)), (2, .int i), (3, .int (nI (k + 1)))]) (by first | (rw [w_3]; done) | (rw [← w_3]; done) | simp only [w_3]) rfl rfl (ih trivial)
theorem i32_in {i c : Int32} {n : Nat} (h : 0 ≤ i ∧ i < c) (hn : c = nI n) (hs : n < 2 ^ 31) : i.toNatClampNeg < n ∧ i = nI i.toNatClampNeg := by
  obtain ⟨h1, h2⟩ := h
  obtain ⟨j, hj, rfl⟩ := nI_of (x := i) (by simpa using h1)
  rw [hn, nI_ltI hj (by omega)] at h2
  rw [nI_clamp hj]
  exact ⟨h2, rfl⟩
theorem nI_lt8 {x : Int32} {n m : Nat} (hn : x = nI n) (h8 : n ≤ m) (hm : m < 2 ^ 31) (h : ¬ nI m ≤ x) : n < m := by
  rw [hn] at h
  rcases Nat.lt_or_ge n m with q | q
  · exact q
  · exact absurd (nI_le q (by omega)) h
def f_X2_attach_r (d : Nat → Nat → Int32) (fam : Int32) (ser : Int32) (n : Nat) : Int32 := if 0 ≤ fam ∧ fam ≤ 15 then (if 0 ≤ ser ∧ ser ≤ 255 then (if hasS (d 0) ((fam ||| (ser <<< (4 &&& 31))) ||| (crcP (fam ||| (ser <<< (4 &&& 31))) <<< (12 &&& 31))) n = true then (-3) else (if (d 4 0) < 8 then (((d 4 0) + 1) - 1) else (-4))) else (-2)) else (-2)
def f_X2_attach_d (d : Nat → Nat → Int32) (fam : Int32) (ser : Int32) (n : Nat) : Nat → Nat → Int32 := if 0 ≤ fam ∧ fam ≤ 15 then (if 0 ≤ ser ∧ ser ≤ 255 then (if hasS (d 0) ((fam ||| (ser <<< (4 &&& 31))) ||| (crcP (fam ||| (ser <<< (4 &&& 31))) <<< (12 &&& 31))) n = true then d else (if (d 4 0) < 8 then (rs (rs (rs (rs (rs d 0 n ((fam ||| (ser <<< (4 &&& 31))) ||| (crcP (fam ||| (ser <<< (4 &&& 31))) <<< (12 &&& 31)))) 1 n 0) 2 n 0) 3 n 0) 4 0 ((d 4 0) + 1)) else d)) else d) else d
set_option maxHeartbeats 4000000 in
set_option maxRecDepth 100000 in
theorem c_X2_attach (l : Launch) (E : gE) (a : Nat → Nat) (d : Nat → Nat → Int32) (fam : Int32) (ser : Int32) (n : Nat) (hn : d 4 0 = nI n) (h8 : n ≤ 8) : CtI l E yX2_attach prog_4_method_4_code 4 (some .int) 3 66 0 0 [.ref (a 1), .int fam, .int ser] [((a 1), .inr (2, [.ref (a 2), .ref (a 3), .ref (a 4), .ref (a 5), .int (d 4 0)])), ((a 2), .inl (E.2.1, 8, .inl (d 0))), ((a 3), .inl (E.2.1, 8, .inl (d 1))), ((a 4), .inl (E.2.1, 8, .inl (d 2))), ((a 5), .inl (E.2.1, 8, .inl (d 3)))] (fun r (_ : Unit) => r = f_X2_attach_r d fam ser n) (fun _ => [((a 1), .inr (2, [.ref (a 2), .ref (a 3), .ref (a 4), .ref (a 5), .int ((f_X2_attach_d d fam ser n) 4 0)])), ((a 2), .inl (E.2.1, 8, .inl ((f_X2_attach_d d fam ser n) 0))), ((a 3), .inl (E.2.1, 8, .inl ((f_X2_attach_d d fam ser n) 1))), ((a 4), .inl (E.2.1, 8, .inl ((f_X2_attach_d d fam ser n) 2))), ((a 5), .inl (E.2.1, 8, .inl ((f_X2_attach_d d fam ser n) 3)))]) := by
  refine CtI.start (by decide) (Nat.le_of_ble_eq_true rfl) ?_
  intro p_ e_ s_ m_ below_ meth_ c_ A_ C hr hlocks hnm
  refine Wd.cast (lv1 := [(0, .ref (a 1)), (1, .int fam), (2, .int ser)]) rfl rfl rfl ?_
  refine x_iload_n C dX2_attach_0 1 rfl ?_
  refine x_iconst (v := 0) C dX2_attach_1 (by decide) ?_
  refine x_bipush (v := 15) C dX2_attach_2 (by decide) ?_
  refine x_callNI (wc := []) (wr := [((a 1), .inr (2, [.ref (a 2), .ref (a 3), .ref (a 4), .ref (a 5), .int (d 4 0)])), ((a 2), .inl (E.2.1, 8, .inl (d 0))), ((a 3), .inl (E.2.1, 8, .inl (d 1))), ((a 4), .inl (E.2.1, 8, .inl (d 2))), ((a 5), .inl (E.2.1, 8, .inl (d 3)))]) (As := [.int fam, .int 0, .int 15]) (rest := []) C (c_X5_isWithin l E fam 0 15 ) (gWN (host := RX5) C (by unfold gNest; exact List.mem_of_getElem? (i := 0) rfl) kw_st_X5_isWithin kw_ini_X5 kw_code_X5_isWithin ga_X5_isWithin ⟨Nat.le_of_ble_eq_true rfl, Nat.le_of_ble_eq_true rfl⟩) [] [0, 1, 2, 3, 4] [0, 1, 2, 3, 4] rfl rfl rfl rfl (by decide) (fun _ => [((a 1), .inr (2, [.ref (a 2), .ref (a 3), .ref (a 4), .ref (a 5), .int (d 4 0)])), ((a 2), .inl (E.2.1, 8, .inl (d 0))), ((a 3), .inl (E.2.1, 8, .inl (d 1))), ((a 4), .inl (E.2.1, 8, .inl (d 2))), ((a 5), .inl (E.2.1, 8, .inl (d 3)))]) rfl (fun _ => rfl) rfl (Nat.le_of_ble_eq_true rfl) ⟨Nat.le_of_ble_eq_true rfl, Nat.le_of_ble_eq_true rfl⟩ rfl dX2_attach_4 (fun r_1 _ e_2 => ?_)
  subst e_2
  refine x_ifB_eq (tgt := 21) C dX2_attach_7 (by decide) (fun c_7 => ?_) (fun c_7 => ?_)
  · refine x_bipush (v := (-2)) C dX2_attach_21 (by decide) ?_
    have q_3 : f_X2_attach_d d fam ser n = d := (by unfold f_X2_attach_d; rw [if_neg c_7])
    exact x_iret C hr hlocks rfl () (Eq.symm (by unfold f_X2_attach_r; rw [if_neg c_7])) (by rw [q_3]; exact gEq.rf _) dX2_attach_23
  · refine x_iload_n C dX2_attach_10 2 rfl ?_
    refine x_iconst (v := 0) C dX2_attach_11 (by decide) ?_
    refine x_sipush (v := 255) C dX2_attach_12 (by decide) ?_
    refine x_callNI (wc := []) (wr := [((a 1), .inr (2, [.ref (a 2), .ref (a 3), .ref (a 4), .ref (a 5), .int (d 4 0)])), ((a 2), .inl (E.2.1, 8, .inl (d 0))), ((a 3), .inl (E.2.1, 8, .inl (d 1))), ((a 4), .inl (E.2.1, 8, .inl (d 2))), ((a 5), .inl (E.2.1, 8, .inl (d 3)))]) (As := [.int ser, .int 0, .int 255]) (rest := []) C (c_X5_isWithin l E ser 0 255 ) (gWN (host := RX5) C (by unfold gNest; exact List.mem_of_getElem? (i := 0) rfl) kw_st_X5_isWithin kw_ini_X5 kw_code_X5_isWithin ga_X5_isWithin ⟨Nat.le_of_ble_eq_true rfl, Nat.le_of_ble_eq_true rfl⟩) [] [0, 1, 2, 3, 4] [0, 1, 2, 3, 4] rfl rfl rfl rfl (by decide) (fun _ => [((a 1), .inr (2, [.ref (a 2), .ref (a 3), .ref (a 4), .ref (a 5), .int (d 4 0)])), ((a 2), .inl (E.2.1, 8, .inl (d 0))), ((a 3), .inl (E.2.1, 8, .inl (d 1))), ((a 4), .inl (E.2.1, 8, .inl (d 2))), ((a 5), .inl (E.2.1, 8, .inl (d 3)))]) rfl (fun _ => rfl) rfl (Nat.le_of_ble_eq_true rfl) ⟨Nat.le_of_ble_eq_true rfl, Nat.le_of_ble_eq_true rfl⟩ rfl dX2_attach_15 (fun r_4 _ e_5 => ?_)
    subst e_5
    refine x_ifB_ne (tgt := 24) C dX2_attach_18 (by decide) (fun c_18 => ?_) (fun c_18 => ?_)
    · refine x_iload_n C dX2_attach_24 1 rfl ?_
      refine x_iload_n C dX2_attach_25 2 rfl ?_
      refine x_callNI (wc := []) (wr := [((a 1), .inr (2, [.ref (a 2), .ref (a 3), .ref (a 4), .ref (a 5), .int (d 4 0)])), ((a 2), .inl (E.2.1, 8, .inl (d 0))), ((a 3), .inl (E.2.1, 8, .inl (d 1))), ((a 4), .inl (E.2.1, 8, .inl (d 2))), ((a 5), .inl (E.2.1, 8, .inl (d 3)))]) (As := [.int fam, .int ser]) (rest := []) C (c_X5_romOf l E fam ser ) (gWN (host := RX5) C (by unfold gNest; exact List.mem_of_getElem? (i := 1) rfl) kw_st_X5_romOf kw_ini_X5 kw_code_X5_romOf ga_X5_romOf ⟨Nat.le_of_ble_eq_true rfl, Nat.le_of_ble_eq_true rfl⟩) [] [0, 1, 2, 3, 4] [0, 1, 2, 3, 4] rfl rfl rfl rfl (by decide) (fun _ => [((a 1), .inr (2, [.ref (a 2), .ref (a 3), .ref (a 4), .ref (a 5), .int (d 4 0)])), ((a 2), .inl (E.2.1, 8, .inl (d 0))), ((a 3), .inl (E.2.1, 8, .inl (d 1))), ((a 4), .inl (E.2.1, 8, .inl (d 2))), ((a 5), .inl (E.2.1, 8, .inl (d 3)))]) rfl (fun _ => rfl) rfl (Nat.le_of_ble_eq_true rfl) ⟨Nat.le_of_ble_eq_true rfl, Nat.le_of_ble_eq_true rfl⟩ rfl dX2_attach_26 (fun r_6 _ e_7 => ?_)
      subst e_7
      refine x_istore_n (lv1 := [(3, .int ((fam ||| (ser <<< (4 &&& 31))) ||| (crcP (fam ||| (ser <<< (4 &&& 31))) <<< (12 &&& 31)))), (0, .ref (a 1)), (1, .int fam), (2, .int ser)]) C dX2_attach_29 (by decide) rfl ?_
      refine x_aload_n C dX2_attach_30 1 rfl ?_
      refine x_iload_n C dX2_attach_31 0 rfl ?_
      refine x_callVI (wc := [((a 1), .inr (2, [.ref (a 2), .ref (a 3), .ref (a 4), .ref (a 5), .int (d 4 0)])), ((a 2), .inl (E.2.1, 8, .inl (d 0))), ((a 3), .inl (E.2.1, 8, .inl (d 1))), ((a 4), .inl (E.2.1, 8, .inl (d 2))), ((a 5), .inl (E.2.1, 8, .inl (d 3)))]) (wr := []) (As := [.int ((fam ||| (ser <<< (4 &&& 31))) ||| (crcP (fam ||| (ser <<< (4 &&& 31))) <<< (12 &&& 31)))]) (rest := []) (ci := 2) (q0 := 0) C (c_X2_hasRom l E a d ((fam ||| (ser <<< (4 &&& 31))) ||| (crcP (fam ||| (ser <<< (4 &&& 31))) <<< (12 &&& 31))) n hn h8) (gWV C kw_ml_X2_42 kw_im_X2_hasRom kw_sel_X2_hasRom kw_ini_X2 kw_code_X2_hasRom ga_X2_hasRom ⟨Nat.le_of_ble_eq_true rfl, Nat.le_of_ble_eq_true rfl⟩) rfl rfl [0, 1, 2, 3, 4] [] [0, 1, 2, 3, 4] rfl rfl rfl rfl (by decide) (fun _ => [((a 1), .inr (2, [.ref (a 2), .ref (a 3), .ref (a 4), .ref (a 5), .int (d 4 0)])), ((a 2), .inl (E.2.1, 8, .inl (d 0))), ((a 3), .inl (E.2.1, 8, .inl (d 1))), ((a 4), .inl (E.2.1, 8, .inl (d 2))), ((a 5), .inl (E.2.1, 8, .inl (d 3)))]) rfl (fun _ => rfl) rfl (Nat.le_of_ble_eq_true rfl) ⟨Nat.le_of_ble_eq_true rfl, Nat.le_of_ble_eq_true rfl⟩ rfl dX2_attach_32 (fun r_8 _ e_9 => ?_)
      subst e_9
      refine x_ifB_eq (tgt := 41) C dX2_attach_35 (by decide) (fun c_35 => ?_) (fun c_35 => ?_)
      · refine x_aload_n C dX2_attach_41 1 rfl ?_
        refine x_get (ref := "RomSearchBus$Devices") (v := .int (d 4 0)) C inX2 0 4 rfl rfl (by decide) kw_fl_X2_24 rfl rfl dX2_attach_42 ?_
        refine x_bipush (v := 8) C dX2_attach_45 (by decide) ?_
        refine x_icmp_lt (tgt := 53) C dX2_attach_47 (by decide) (fun c_47 => ?_) (fun c_47 => ?_)
        · refine x_aload_n C dX2_attach_53 1 rfl ?_
          refine x_get (ref := "RomSearchBus$Devices") (v := .ref (a 2)) C inX2 0 0 rfl rfl (by decide) kw_fl_X2_11 rfl rfl dX2_attach_54 ?_
          refine x_aload_n C dX2_attach_57 1 rfl ?_
          refine x_get (ref := "RomSearchBus$Devices") (v := .int (d 4 0)) C inX2 0 4 rfl rfl (by decide) kw_fl_X2_24 rfl rfl dX2_attach_58 ?_
          refine x_iload_n C dX2_attach_61 0 rfl ?_
          refine x_iastN C 1 rfl hn (nI_lt8 (m := 8) hn h8 (by decide) (Int32.not_le.mpr c_47)) (by decide) [((a 1), .inr (2, [.ref (a 2), .ref (a 3), .ref (a 4), .ref (a 5), .int (d 4 0)])), ((a 2), .inl (E.2.1, 8, .inl (upd (d 0) n ((fam ||| (ser <<< (4 &&& 31))) ||| (crcP (fam ||| (ser <<< (4 &&& 31))) <<< (12 &&& 31)))))), ((a 3), .inl (E.2.1, 8, .inl (d 1))), ((a 4), .inl (E.2.1, 8, .inl (d 2))), ((a 5), .inl (E.2.1, 8, .inl (d 3)))] rfl dX2_attach_62 ?_
          refine x_aload_n C dX2_attach_63 1 rfl ?_
          refine x_get (ref := "RomSearchBus$Devices") (v := .ref (a 3)) C inX2 0 1 rfl rfl (by decide) kw_fl_X2_15 rfl rfl dX2_attach_64 ?_
          refine x_aload_n C dX2_attach_67 1 rfl ?_
          refine x_get (ref := "RomSearchBus$Devices") (v := .int (d 4 0)) C inX2 0 4 rfl rfl (by decide) kw_fl_X2_24 rfl rfl dX2_attach_68 ?_
          refine x_iconst (v := 0) C dX2_attach_71 (by decide) ?_
          refine x_iastN C 2 rfl hn (nI_lt8 (m := 8) hn h8 (by decide) (Int32.not_le.mpr c_47)) (by decide) [((a 1), .inr (2, [.ref (a 2), .ref (a 3), .ref (a 4), .ref (a 5), .int (d 4 0)])), ((a 2), .inl (E.2.1, 8, .inl (upd (d 0) n ((fam ||| (ser <<< (4 &&& 31))) ||| (crcP (fam ||| (ser <<< (4 &&& 31))) <<< (12 &&& 31)))))), ((a 3), .inl (E.2.1, 8, .inl (upd (d 1) n 0))), ((a 4), .inl (E.2.1, 8, .inl (d 2))), ((a 5), .inl (E.2.1, 8, .inl (d 3)))] rfl dX2_attach_72 ?_
          refine x_aload_n C dX2_attach_73 1 rfl ?_
          refine x_get (ref := "RomSearchBus$Devices") (v := .ref (a 4)) C inX2 0 2 rfl rfl (by decide) kw_fl_X2_18 rfl rfl dX2_attach_74 ?_
          refine x_aload_n C dX2_attach_77 1 rfl ?_
          refine x_get (ref := "RomSearchBus$Devices") (v := .int (d 4 0)) C inX2 0 4 rfl rfl (by decide) kw_fl_X2_24 rfl rfl dX2_attach_78 ?_
          refine x_iconst (v := 0) C dX2_attach_81 (by decide) ?_
          refine x_iastN C 3 rfl hn (nI_lt8 (m := 8) hn h8 (by decide) (Int32.not_le.mpr c_47)) (by decide) [((a 1), .inr (2, [.ref (a 2), .ref (a 3), .ref (a 4), .ref (a 5), .int (d 4 0)])), ((a 2), .inl (E.2.1, 8, .inl (upd (d 0) n ((fam ||| (ser <<< (4 &&& 31))) ||| (crcP (fam ||| (ser <<< (4 &&& 31))) <<< (12 &&& 31)))))), ((a 3), .inl (E.2.1, 8, .inl (upd (d 1) n 0))), ((a 4), .inl (E.2.1, 8, .inl (upd (d 2) n 0))), ((a 5), .inl (E.2.1, 8, .inl (d 3)))] rfl dX2_attach_82 ?_
          refine x_aload_n C dX2_attach_83 1 rfl ?_
          refine x_get (ref := "RomSearchBus$Devices") (v := .ref (a 5)) C inX2 0 3 rfl rfl (by decide) kw_fl_X2_21 rfl rfl dX2_attach_84 ?_
          refine x_aload_n C dX2_attach_87 1 rfl ?_
          refine x_get (ref := "RomSearchBus$Devices") (v := .int (d 4 0)) C inX2 0 4 rfl rfl (by decide) kw_fl_X2_24 rfl rfl dX2_attach_88 ?_
          refine x_iconst (v := 0) C dX2_attach_91 (by decide) ?_
          refine x_iastN C 4 rfl hn (nI_lt8 (m := 8) hn h8 (by decide) (Int32.not_le.mpr c_47)) (by decide) [((a 1), .inr (2, [.ref (a 2), .ref (a 3), .ref (a 4), .ref (a 5), .int (d 4 0)])), ((a 2), .inl (E.2.1, 8, .inl (upd (d 0) n ((fam ||| (ser <<< (4 &&& 31))) ||| (crcP (fam ||| (ser <<< (4 &&& 31))) <<< (12 &&& 31)))))), ((a 3), .inl (E.2.1, 8, .inl (upd (d 1) n 0))), ((a 4), .inl (E.2.1, 8, .inl (upd (d 2) n 0))), ((a 5), .inl (E.2.1, 8, .inl (upd (d 3) n 0)))] rfl dX2_attach_92 ?_
          refine x_aload_n C dX2_attach_93 1 rfl ?_
          refine x_dup C dX2_attach_94 rfl ?_
          refine x_get (ref := "RomSearchBus$Devices") (v := .int (d 4 0)) C inX2 0 4 rfl rfl (by decide) kw_fl_X2_24 rfl rfl dX2_attach_95 ?_
          refine x_iconst (v := 1) C dX2_attach_98 (by decide) ?_
          refine x_iadd C dX2_attach_99 ?_
          refine x_put (ref := "RomSearchBus$Devices") C inX2 tyX2 tyX2_ok nmX2 0 4 rfl rfl (by decide) kw_fl_X2_24 rfl rfl rfl rfl (Nat.le_of_ble_eq_true rfl) [((a 1), .inr (2, [.ref (a 2), .ref (a 3), .ref (a 4), .ref (a 5), .int ((d 4 0) + 1)])), ((a 2), .inl (E.2.1, 8, .inl (upd (d 0) n ((fam ||| (ser <<< (4 &&& 31))) ||| (crcP (fam ||| (ser <<< (4 &&& 31))) <<< (12 &&& 31)))))), ((a 3), .inl (E.2.1, 8, .inl (upd (d 1) n 0))), ((a 4), .inl (E.2.1, 8, .inl (upd (d 2) n 0))), ((a 5), .inl (E.2.1, 8, .inl (upd (d 3) n 0)))] rfl dX2_attach_100 ?_
          refine x_aload_n C dX2_attach_103 1 rfl ?_
          refine x_get (ref := "RomSearchBus$Devices") (v := .int ((d 4 0) + 1)) C inX2 0 4 rfl rfl (by decide) kw_fl_X2_24 rfl rfl dX2_attach_104 ?_
          refine x_iconst (v := 1) C dX2_attach_107 (by decide) ?_
          refine x_isub C dX2_attach_108 ?_
          have q_10 : f_X2_attach_d d fam ser n = (rs (rs (rs (rs (rs d 0 n ((fam ||| (ser <<< (4 &&& 31))) ||| (crcP (fam ||| (ser <<< (4 &&& 31))) <<< (12 &&& 31)))) 1 n 0) 2 n 0) 3 n 0) 4 0 ((d 4 0) + 1)) := (by unfold f_X2_attach_d; rw [if_pos c_7, if_pos c_18, if_neg c_35, if_pos c_47])
          exact x_iret C hr hlocks rfl () (Eq.symm (by unfold f_X2_attach_r; rw [if_pos c_7, if_pos c_18, if_neg c_35, if_pos c_47])) (by rw [q_10]; exact gEq.rf _) dX2_attach_109
        · refine x_bipush (v := (-4)) C dX2_attach_50 (by decide) ?_
          have q_11 : f_X2_attach_d d fam ser n = d := (by unfold f_X2_attach_d; rw [if_pos c_7, if_pos c_18, if_neg c_35, if_neg c_47])
          exact x_iret C hr hlocks rfl () (Eq.symm (by unfold f_X2_attach_r; rw [if_pos c_7, if_pos c_18, if_neg c_35, if_neg c_47])) (by rw [q_11]; exact gEq.rf _) dX2_attach_52
      · refine x_bipush (v := (-3)) C dX2_attach_38 (by decide) ?_
        have q_12 : f_X2_attach_d d fam ser n = d := (by unfold f_X2_attach_d; rw [if_pos c_7, if_pos c_18, if_pos c_35])
        exact x_iret C hr hlocks rfl () (Eq.symm (by unfold f_X2_attach_r; rw [if_pos c_7, if_pos c_18, if_pos c_35])) (by rw [q_12]; exact gEq.rf _) dX2_attach_40
    · refine x_bipush (v := (-2)) C dX2_attach_21 (by decide) ?_
      have q_13 : f_X2_attach_d d fam ser n = d := (by unfold f_X2_attach_d; rw [if_pos c_7, if_neg c_18])
      exact x_iret C hr hlocks rfl () (Eq.symm (by unfold f_X2_attach_r; rw [if_pos c_7, if_neg c_18])) (by rw [q_13]; exact gEq.rf _) dX2_attach_23
def f_X2_detach_r (d : Nat → Nat → Int32) (i : Int32) (n : Nat) : Int32 := if 0 ≤ i ∧ i < d 4 0 then ((d 4 0) - 1) else (-2)
def f_X2_detach_d (d : Nat → Nat → Int32) (i : Int32) (n : Nat) : Nat → Nat → Int32 := if 0 ≤ i ∧ i < d 4 0 then (rs (va_up (va_up (va_up (va_up d 0 (gap (d 0) i.toNatClampNeg (n - 1))) 1 (gap (d 1) i.toNatClampNeg (n - 1))) 2 (gap (d 2) i.toNatClampNeg (n - 1))) 3 (gap (d 3) i.toNatClampNeg (n - 1))) 4 0 ((d 4 0) - 1)) else d
set_option maxHeartbeats 4000000 in
set_option maxRecDepth 100000 in
theorem c_X2_detach (l : Launch) (E : gE) (a : Nat → Nat) (d : Nat → Nat → Int32) (i : Int32) (n : Nat) (hn : d 4 0 = nI n) (h8 : n ≤ 8) : CtI l E yX2_detach prog_4_method_5_code 2 (some .int) 1 23 0 0 [.ref (a 1), .int i] [((a 1), .inr (2, [.ref (a 2), .ref (a 3), .ref (a 4), .ref (a 5), .int (d 4 0)])), ((a 2), .inl (E.2.1, 8, .inl (d 0))), ((a 3), .inl (E.2.1, 8, .inl (d 1))), ((a 4), .inl (E.2.1, 8, .inl (d 2))), ((a 5), .inl (E.2.1, 8, .inl (d 3)))] (fun r (_ : Unit) => r = f_X2_detach_r d i n) (fun _ => [((a 1), .inr (2, [.ref (a 2), .ref (a 3), .ref (a 4), .ref (a 5), .int ((f_X2_detach_d d i n) 4 0)])), ((a 2), .inl (E.2.1, 8, .inl ((f_X2_detach_d d i n) 0))), ((a 3), .inl (E.2.1, 8, .inl ((f_X2_detach_d d i n) 1))), ((a 4), .inl (E.2.1, 8, .inl ((f_X2_detach_d d i n) 2))), ((a 5), .inl (E.2.1, 8, .inl ((f_X2_detach_d d i n) 3)))]) := by
  refine CtI.start (by decide) (Nat.le_of_ble_eq_true rfl) ?_
  intro p_ e_ s_ m_ below_ meth_ c_ A_ C hr hlocks hnm
  refine Wd.cast (lv1 := [(0, .ref (a 1)), (1, .int i)]) rfl rfl rfl ?_
  refine x_aload_n C dX2_detach_0 0 rfl ?_
  refine x_iload_n C dX2_detach_1 1 rfl ?_
  refine x_callVI (wc := [((a 1), .inr (2, [.ref (a 2), .ref (a 3), .ref (a 4), .ref (a 5), .int (d 4 0)]))]) (wr := [((a 2), .inl (E.2.1, 8, .inl (d 0))), ((a 3), .inl (E.2.1, 8, .inl (d 1))), ((a 4), .inl (E.2.1, 8, .inl (d 2))), ((a 5), .inl (E.2.1, 8, .inl (d 3)))]) (As := [.int i]) (rest := []) (ci := 2) (q0 := 0) C (c_X2_has l E a d i ) (gWV C kw_ml_X2_46 kw_im_X2_has kw_sel_X2_has kw_ini_X2 kw_code_X2_has ga_X2_has ⟨Nat.le_of_ble_eq_true rfl, Nat.le_of_ble_eq_true rfl⟩) rfl rfl [0] [1, 2, 3, 4] [4, 0, 1, 2, 3] rfl rfl rfl rfl (by decide) (fun _ => [((a 1), .inr (2, [.ref (a 2), .ref (a 3), .ref (a 4), .ref (a 5), .int (d 4 0)])), ((a 2), .inl (E.2.1, 8, .inl (d 0))), ((a 3), .inl (E.2.1, 8, .inl (d 1))), ((a 4), .inl (E.2.1, 8, .inl (d 2))), ((a 5), .inl (E.2.1, 8, .inl (d 3)))]) rfl (fun _ => rfl) rfl (Nat.le_of_ble_eq_true rfl) ⟨Nat.le_of_ble_eq_true rfl, Nat.le_of_ble_eq_true rfl⟩ rfl dX2_detach_2 (fun r_1 _ e_2 => ?_)
  subst e_2
  refine x_ifB_ne (tgt := 11) C dX2_detach_5 (by decide) (fun c_5 => ?_) (fun c_5 => ?_)
  · refine x_aload_n C dX2_detach_11 0 rfl ?_
    refine x_aload_n C dX2_detach_12 0 rfl ?_
    refine x_get (ref := "RomSearchBus$Devices") (v := .ref (a 2)) C inX2 0 0 rfl rfl (by decide) kw_fl_X2_11 rfl rfl dX2_detach_13 ?_
    refine x_iload_n C dX2_detach_16 1 rfl ?_
    refine x_callVV (wc := [((a 1), .inr (2, [.ref (a 2), .ref (a 3), .ref (a 4), .ref (a 5), .int (d 4 0)])), ((a 2), .inl (E.2.1, 8, .inl (d 0)))]) (wr := [((a 3), .inl (E.2.1, 8, .inl (d 1))), ((a 4), .inl (E.2.1, 8, .inl (d 2))), ((a 5), .inl (E.2.1, 8, .inl (d 3)))]) (As := [.ref (a 2), .int i]) (rest := []) (ci := 2) (q0 := 0) C (c_X2_closeGap_0 l E a d i i.toNatClampNeg n hn h8 (i32_in c_5 hn (by omega)).2 (i32_in c_5 hn (by omega)).1) (gWV C kw_ml_X2_49 kw_im_X2_closeGap kw_sel_X2_closeGap kw_ini_X2 kw_code_X2_closeGap ga_X2_closeGap ⟨Nat.le_of_ble_eq_true rfl, Nat.le_of_ble_eq_true rfl⟩) rfl rfl [0, 1] [2, 3, 4] [3, 4, 0, 1, 2] rfl rfl rfl rfl (by decide) (fun _ => [((a 1), .inr (2, [.ref (a 2), .ref (a 3), .ref (a 4), .ref (a 5), .int (d 4 0)])), ((a 2), .inl (E.2.1, 8, .inl (gap (d 0) i.toNatClampNeg (n - 1)))), ((a 3), .inl (E.2.1, 8, .inl (d 1))), ((a 4), .inl (E.2.1, 8, .inl (d 2))), ((a 5), .inl (E.2.1, 8, .inl (d 3)))]) rfl (fun _ => rfl) rfl (Nat.le_of_ble_eq_true rfl) ⟨Nat.le_of_ble_eq_true rfl, Nat.le_of_ble_eq_true rfl⟩ rfl dX2_detach_17 (fun _ e_4 => ?_)
    refine x_aload_n C dX2_detach_20 0 rfl ?_
    refine x_aload_n C dX2_detach_21 0 rfl ?_
    refine x_get (ref := "RomSearchBus$Devices") (v := .ref (a 3)) C inX2 0 1 rfl rfl (by decide) kw_fl_X2_15 rfl rfl dX2_detach_22 ?_
    refine x_iload_n C dX2_detach_25 1 rfl ?_
    refine x_callVV (wc := [((a 1), .inr (2, [.ref (a 2), .ref (a 3), .ref (a 4), .ref (a 5), .int (d 4 0)])), ((a 3), .inl (E.2.1, 8, .inl (d 1)))]) (wr := [((a 2), .inl (E.2.1, 8, .inl (gap (d 0) i.toNatClampNeg (n - 1)))), ((a 4), .inl (E.2.1, 8, .inl (d 2))), ((a 5), .inl (E.2.1, 8, .inl (d 3)))]) (As := [.ref (a 3), .int i]) (rest := []) (ci := 2) (q0 := 0) C (c_X2_closeGap_1 l E a (va_up d 0 (gap (d 0) i.toNatClampNeg (n - 1))) i i.toNatClampNeg n hn h8 (i32_in c_5 hn (by omega)).2 (i32_in c_5 hn (by omega)).1) (gWV C kw_ml_X2_49 kw_im_X2_closeGap kw_sel_X2_closeGap kw_ini_X2 kw_code_X2_closeGap ga_X2_closeGap ⟨Nat.le_of_ble_eq_true rfl, Nat.le_of_ble_eq_true rfl⟩) rfl rfl [0, 2] [1, 3, 4] [3, 0, 4, 1, 2] rfl rfl rfl rfl (by decide) (fun _ => [((a 1), .inr (2, [.ref (a 2), .ref (a 3), .ref (a 4), .ref (a 5), .int (d 4 0)])), ((a 2), .inl (E.2.1, 8, .inl (gap (d 0) i.toNatClampNeg (n - 1)))), ((a 3), .inl (E.2.1, 8, .inl (gap (d 1) i.toNatClampNeg (n - 1)))), ((a 4), .inl (E.2.1, 8, .inl (d 2))), ((a 5), .inl (E.2.1, 8, .inl (d 3)))]) rfl (fun _ => rfl) rfl (Nat.le_of_ble_eq_true rfl) ⟨Nat.le_of_ble_eq_true rfl, Nat.le_of_ble_eq_true rfl⟩ rfl dX2_detach_26 (fun _ e_6 => ?_)
    refine x_aload_n C dX2_detach_29 0 rfl ?_
    refine x_aload_n C dX2_detach_30 0 rfl ?_
    refine x_get (ref := "RomSearchBus$Devices") (v := .ref (a 4)) C inX2 0 2 rfl rfl (by decide) kw_fl_X2_18 rfl rfl dX2_detach_31 ?_
    refine x_iload_n C dX2_detach_34 1 rfl ?_
    refine x_callVV (wc := [((a 1), .inr (2, [.ref (a 2), .ref (a 3), .ref (a 4), .ref (a 5), .int (d 4 0)])), ((a 4), .inl (E.2.1, 8, .inl (d 2)))]) (wr := [((a 2), .inl (E.2.1, 8, .inl (gap (d 0) i.toNatClampNeg (n - 1)))), ((a 3), .inl (E.2.1, 8, .inl (gap (d 1) i.toNatClampNeg (n - 1)))), ((a 5), .inl (E.2.1, 8, .inl (d 3)))]) (As := [.ref (a 4), .int i]) (rest := []) (ci := 2) (q0 := 0) C (c_X2_closeGap_2 l E a (va_up (va_up d 0 (gap (d 0) i.toNatClampNeg (n - 1))) 1 (gap (d 1) i.toNatClampNeg (n - 1))) i i.toNatClampNeg n hn h8 (i32_in c_5 hn (by omega)).2 (i32_in c_5 hn (by omega)).1) (gWV C kw_ml_X2_49 kw_im_X2_closeGap kw_sel_X2_closeGap kw_ini_X2 kw_code_X2_closeGap ga_X2_closeGap ⟨Nat.le_of_ble_eq_true rfl, Nat.le_of_ble_eq_true rfl⟩) rfl rfl [0, 3] [1, 2, 4] [3, 0, 1, 4, 2] rfl rfl rfl rfl (by decide) (fun _ => [((a 1), .inr (2, [.ref (a 2), .ref (a 3), .ref (a 4), .ref (a 5), .int (d 4 0)])), ((a 2), .inl (E.2.1, 8, .inl (gap (d 0) i.toNatClampNeg (n - 1)))), ((a 3), .inl (E.2.1, 8, .inl (gap (d 1) i.toNatClampNeg (n - 1)))), ((a 4), .inl (E.2.1, 8, .inl (gap (d 2) i.toNatClampNeg (n - 1)))), ((a 5), .inl (E.2.1, 8, .inl (d 3)))]) rfl (fun _ => rfl) rfl (Nat.le_of_ble_eq_true rfl) ⟨Nat.le_of_ble_eq_true rfl, Nat.le_of_ble_eq_true rfl⟩ rfl dX2_detach_35 (fun _ e_8 => ?_)
    refine x_aload_n C dX2_detach_38 0 rfl ?_
    refine x_aload_n C dX2_detach_39 0 rfl ?_
    refine x_get (ref := "RomSearchBus$Devices") (v := .ref (a 5)) C inX2 0 3 rfl rfl (by decide) kw_fl_X2_21 rfl rfl dX2_detach_40 ?_
    refine x_iload_n C dX2_detach_43 1 rfl ?_
    refine x_callVV (wc := [((a 1), .inr (2, [.ref (a 2), .ref (a 3), .ref (a 4), .ref (a 5), .int (d 4 0)])), ((a 5), .inl (E.2.1, 8, .inl (d 3)))]) (wr := [((a 2), .inl (E.2.1, 8, .inl (gap (d 0) i.toNatClampNeg (n - 1)))), ((a 3), .inl (E.2.1, 8, .inl (gap (d 1) i.toNatClampNeg (n - 1)))), ((a 4), .inl (E.2.1, 8, .inl (gap (d 2) i.toNatClampNeg (n - 1))))]) (As := [.ref (a 5), .int i]) (rest := []) (ci := 2) (q0 := 0) C (c_X2_closeGap_3 l E a (va_up (va_up (va_up d 0 (gap (d 0) i.toNatClampNeg (n - 1))) 1 (gap (d 1) i.toNatClampNeg (n - 1))) 2 (gap (d 2) i.toNatClampNeg (n - 1))) i i.toNatClampNeg n hn h8 (i32_in c_5 hn (by omega)).2 (i32_in c_5 hn (by omega)).1) (gWV C kw_ml_X2_49 kw_im_X2_closeGap kw_sel_X2_closeGap kw_ini_X2 kw_code_X2_closeGap ga_X2_closeGap ⟨Nat.le_of_ble_eq_true rfl, Nat.le_of_ble_eq_true rfl⟩) rfl rfl [0, 4] [1, 2, 3] [3, 0, 1, 2, 4] rfl rfl rfl rfl (by decide) (fun _ => [((a 1), .inr (2, [.ref (a 2), .ref (a 3), .ref (a 4), .ref (a 5), .int (d 4 0)])), ((a 2), .inl (E.2.1, 8, .inl (gap (d 0) i.toNatClampNeg (n - 1)))), ((a 3), .inl (E.2.1, 8, .inl (gap (d 1) i.toNatClampNeg (n - 1)))), ((a 4), .inl (E.2.1, 8, .inl (gap (d 2) i.toNatClampNeg (n - 1)))), ((a 5), .inl (E.2.1, 8, .inl (gap (d 3) i.toNatClampNeg (n - 1))))]) rfl (fun _ => rfl) rfl (Nat.le_of_ble_eq_true rfl) ⟨Nat.le_of_ble_eq_true rfl, Nat.le_of_ble_eq_true rfl⟩ rfl dX2_detach_44 (fun _ e_10 => ?_)
    refine x_aload_n C dX2_detach_47 0 rfl ?_
    refine x_dup C dX2_detach_48 rfl ?_
    refine x_get (ref := "RomSearchBus$Devices") (v := .int (d 4 0)) C inX2 0 4 rfl rfl (by decide) kw_fl_X2_24 rfl rfl dX2_detach_49 ?_
    refine x_iconst (v := 1) C dX2_detach_52 (by decide) ?_
    refine x_isub C dX2_detach_53 ?_
    refine x_put (ref := "RomSearchBus$Devices") C inX2 tyX2 tyX2_ok nmX2 0 4 rfl rfl (by decide) kw_fl_X2_24 rfl rfl rfl rfl (Nat.le_of_ble_eq_true rfl) [((a 1), .inr (2, [.ref (a 2), .ref (a 3), .ref (a 4), .ref (a 5), .int ((d 4 0) - 1)])), ((a 2), .inl (E.2.1, 8, .inl (gap (d 0) i.toNatClampNeg (n - 1)))), ((a 3), .inl (E.2.1, 8, .inl (gap (d 1) i.toNatClampNeg (n - 1)))), ((a 4), .inl (E.2.1, 8, .inl (gap (d 2) i.toNatClampNeg (n - 1)))), ((a 5), .inl (E.2.1, 8, .inl (gap (d 3) i.toNatClampNeg (n - 1))))] rfl dX2_detach_54 ?_
    refine x_aload_n C dX2_detach_57 0 rfl ?_
    refine x_get (ref := "RomSearchBus$Devices") (v := .int ((d 4 0) - 1)) C inX2 0 4 rfl rfl (by decide) kw_fl_X2_24 rfl rfl dX2_detach_58 ?_
    have q_11 : f_X2_detach_d d i n = (rs (va_up (va_up (va_up (va_up d 0 (gap (d 0) i.toNatClampNeg (n - 1))) 1 (gap (d 1) i.toNatClampNeg (n - 1))) 2 (gap (d 2) i.toNatClampNeg (n - 1))) 3 (gap (d 3) i.toNatClampNeg (n - 1))) 4 0 ((d 4 0) - 1)) := (by unfold f_X2_detach_d; rw [if_pos c_5])
    exact x_iret C hr hlocks rfl () (Eq.symm (by unfold f_X2_detach_r; rw [if_pos c_5])) (by rw [q_11]; exact gEq.rf _) dX2_detach_61
  · refine x_bipush (v := (-2)) C dX2_detach_8 (by decide) ?_
    have q_12 : f_X2_detach_d d i n = d := (by unfold f_X2_detach_d; rw [if_neg c_5])
    exact x_iret C hr hlocks rfl () (Eq.symm (by unfold f_X2_detach_r; rw [if_neg c_5])) (by rw [q_12]; exact gEq.rf _) dX2_detach_10
def f_X2_storeReading_r (d : Nat → Nat → Int32) (i : Int32) (v : Int32) (n : Nat) : Int32 := if 0 ≤ i ∧ i < d 4 0 then (if (-999) ≤ v ∧ v ≤ 999 then (if alarmB ((rs d 1 i.toNatClampNeg v) 1 i.toNatClampNeg) ((rs d 1 i.toNatClampNeg v) 2 i.toNatClampNeg) ((rs d 1 i.toNatClampNeg v) 3 i.toNatClampNeg) = true then 1 else 0) else (-2)) else (-2)
def f_X2_storeReading_d (d : Nat → Nat → Int32) (i : Int32) (v : Int32) (n : Nat) : Nat → Nat → Int32 := if 0 ≤ i ∧ i < d 4 0 then (if (-999) ≤ v ∧ v ≤ 999 then (if alarmB ((rs d 1 i.toNatClampNeg v) 1 i.toNatClampNeg) ((rs d 1 i.toNatClampNeg v) 2 i.toNatClampNeg) ((rs d 1 i.toNatClampNeg v) 3 i.toNatClampNeg) = true then (rs d 1 i.toNatClampNeg v) else (rs d 1 i.toNatClampNeg v)) else d) else d
set_option maxHeartbeats 4000000 in
set_option maxRecDepth 100000 in
theorem c_X2_storeReading (l : Launch) (E : gE) (a : Nat → Nat) (d : Nat → Nat → Int32) (i : Int32) (v : Int32) (n : Nat) (hn : d 4 0 = nI n) (h8 : n ≤ 8) : CtI l E yX2_storeReading prog_4_method_6_code 3 (some .int) 2 37 0 0 [.ref (a 1), .int i, .int v] [((a 1), .inr (2, [.ref (a 2), .ref (a 3), .ref (a 4), .ref (a 5), .int (d 4 0)])), ((a 2), .inl (E.2.1, 8, .inl (d 0))), ((a 3), .inl (E.2.1, 8, .inl (d 1))), ((a 4), .inl (E.2.1, 8, .inl (d 2))), ((a 5), .inl (E.2.1, 8, .inl (d 3)))] (fun r (_ : Unit) => r = f_X2_storeReading_r d i v n) (fun _ => [((a 1), .inr (2, [.ref (a 2), .ref (a 3), .ref (a 4), .ref (a 5), .int ((f_X2_storeReading_d d i v n) 4 0)])), ((a 2), .inl (E.2.1, 8, .inl ((f_X2_storeReading_d d i v n) 0))), ((a 3), .inl (E.2.1, 8, .inl ((f_X2_storeReading_d d i v n) 1))), ((a 4), .inl (E.2.1, 8, .inl ((f_X2_storeReading_d d i v n) 2))), ((a 5), .inl (E.2.1, 8, .inl ((f_X2_storeReading_d d i v n) 3)))]) := by
  refine CtI.start (by decide) (Nat.le_of_ble_eq_true rfl) ?_
  intro p_ e_ s_ m_ below_ meth_ c_ A_ C hr hlocks hnm
  refine Wd.cast (lv1 := [(0, .ref (a 1)), (1, .int i), (2, .int v)]) rfl rfl rfl ?_
  refine x_aload_n C dX2_storeReading_0 0 rfl ?_
  refine x_iload_n C dX2_storeReading_1 1 rfl ?_
  refine x_callVI (wc := [((a 1), .inr (2, [.ref (a 2), .ref (a 3), .ref (a 4), .ref (a 5), .int (d 4 0)]))]) (wr := [((a 2), .inl (E.2.1, 8, .inl (d 0))), ((a 3), .inl (E.2.1, 8, .inl (d 1))), ((a 4), .inl (E.2.1, 8, .inl (d 2))), ((a 5), .inl (E.2.1, 8, .inl (d 3)))]) (As := [.int i]) (rest := []) (ci := 2) (q0 := 0) C (c_X2_has l E a d i ) (gWV C kw_ml_X2_46 kw_im_X2_has kw_sel_X2_has kw_ini_X2 kw_code_X2_has ga_X2_has ⟨Nat.le_of_ble_eq_true rfl, Nat.le_of_ble_eq_true rfl⟩) rfl rfl [0] [1, 2, 3, 4] [4, 0, 1, 2, 3] rfl rfl rfl rfl (by decide) (fun _ => [((a 1), .inr (2, [.ref (a 2), .ref (a 3), .ref (a 4), .ref (a 5), .int (d 4 0)])), ((a 2), .inl (E.2.1, 8, .inl (d 0))), ((a 3), .inl (E.2.1, 8, .inl (d 1))), ((a 4), .inl (E.2.1, 8, .inl (d 2))), ((a 5), .inl (E.2.1, 8, .inl (d 3)))]) rfl (fun _ => rfl) rfl (Nat.le_of_ble_eq_true rfl) ⟨Nat.le_of_ble_eq_true rfl, Nat.le_of_ble_eq_true rfl⟩ rfl dX2_storeReading_2 (fun r_1 _ e_2 => ?_)
  subst e_2
  refine x_ifB_eq (tgt := 21) C dX2_storeReading_5 (by decide) (fun c_5 => ?_) (fun c_5 => ?_)
  · refine x_bipush (v := (-2)) C dX2_storeReading_21 (by decide) ?_
    have q_3 : f_X2_storeReading_d d i v n = d := (by unfold f_X2_storeReading_d; rw [if_neg c_5])
    exact x_iret C hr hlocks rfl () (Eq.symm (by unfold f_X2_storeReading_r; rw [if_neg c_5])) (by rw [q_3]; exact gEq.rf _) dX2_storeReading_23
  · refine x_iload_n C dX2_storeReading_8 2 rfl ?_
    refine x_sipush (v := (-999)) C dX2_storeReading_9 (by decide) ?_
    refine x_sipush (v := 999) C dX2_storeReading_12 (by decide) ?_
    refine x_callNI (wc := []) (wr := [((a 1), .inr (2, [.ref (a 2), .ref (a 3), .ref (a 4), .ref (a 5), .int (d 4 0)])), ((a 2), .inl (E.2.1, 8, .inl (d 0))), ((a 3), .inl (E.2.1, 8, .inl (d 1))), ((a 4), .inl (E.2.1, 8, .inl (d 2))), ((a 5), .inl (E.2.1, 8, .inl (d 3)))]) (As := [.int v, .int (-999), .int 999]) (rest := []) C (c_X5_isWithin l E v (-999) 999 ) (gWN (host := RX5) C (by unfold gNest; exact List.mem_of_getElem? (i := 0) rfl) kw_st_X5_isWithin kw_ini_X5 kw_code_X5_isWithin ga_X5_isWithin ⟨Nat.le_of_ble_eq_true rfl, Nat.le_of_ble_eq_true rfl⟩) [] [0, 1, 2, 3, 4] [0, 1, 2, 3, 4] rfl rfl rfl rfl (by decide) (fun _ => [((a 1), .inr (2, [.ref (a 2), .ref (a 3), .ref (a 4), .ref (a 5), .int (d 4 0)])), ((a 2), .inl (E.2.1, 8, .inl (d 0))), ((a 3), .inl (E.2.1, 8, .inl (d 1))), ((a 4), .inl (E.2.1, 8, .inl (d 2))), ((a 5), .inl (E.2.1, 8, .inl (d 3)))]) rfl (fun _ => rfl) rfl (Nat.le_of_ble_eq_true rfl) ⟨Nat.le_of_ble_eq_true rfl, Nat.le_of_ble_eq_true rfl⟩ rfl dX2_storeReading_15 (fun r_4 _ e_5 => ?_)
    subst e_5
    refine x_ifB_ne (tgt := 24) C dX2_storeReading_18 (by decide) (fun c_18 => ?_) (fun c_18 => ?_)
    · refine x_aload_n C dX2_storeReading_24 0 rfl ?_
      refine x_get (ref := "RomSearchBus$Devices") (v := .ref (a 3)) C inX2 0 1 rfl rfl (by decide) kw_fl_X2_15 rfl rfl dX2_storeReading_25 ?_
      refine x_iload_n C dX2_storeReading_28 1 rfl ?_
      refine x_iload_n C dX2_storeReading_29 2 rfl ?_
      refine x_iastN C 2 rfl (i32_in c_5 hn (by omega)).2 (Nat.lt_of_lt_of_le (i32_in c_5 hn (by omega)).1 h8) (by decide) [((a 1), .inr (2, [.ref (a 2), .ref (a 3), .ref (a 4), .ref (a 5), .int (d 4 0)])), ((a 2), .inl (E.2.1, 8, .inl (d 0))), ((a 3), .inl (E.2.1, 8, .inl (upd (d 1) i.toNatClampNeg v))), ((a 4), .inl (E.2.1, 8, .inl (d 2))), ((a 5), .inl (E.2.1, 8, .inl (d 3)))] rfl dX2_storeReading_30 ?_
      refine x_aload_n C dX2_storeReading_31 0 rfl ?_
      refine x_iload_n C dX2_storeReading_32 1 rfl ?_
      refine x_callVI (wc := [((a 1), .inr (2, [.ref (a 2), .ref (a 3), .ref (a 4), .ref (a 5), .int (d 4 0)])), ((a 2), .inl (E.2.1, 8, .inl (d 0))), ((a 3), .inl (E.2.1, 8, .inl (upd (d 1) i.toNatClampNeg v))), ((a 4), .inl (E.2.1, 8, .inl (d 2))), ((a 5), .inl (E.2.1, 8, .inl (d 3)))]) (wr := []) (As := [.int i]) (rest := []) (ci := 2) (q0 := 0) C (c_X2_isAlarmed l E a (rs d 1 i.toNatClampNeg v) i i.toNatClampNeg (i32_in c_5 hn (by omega)).2 (Nat.lt_of_lt_of_le (i32_in c_5 hn (by omega)).1 h8)) (gWV C kw_ml_X2_53 kw_im_X2_isAlarmed kw_sel_X2_isAlarmed kw_ini_X2 kw_code_X2_isAlarmed ga_X2_isAlarmed ⟨Nat.le_of_ble_eq_true rfl, Nat.le_of_ble_eq_true rfl⟩) rfl rfl [0, 1, 2, 3, 4] [] [0, 1, 2, 3, 4] rfl rfl rfl rfl (by decide) (fun _ => [((a 1), .inr (2, [.ref (a 2), .ref (a 3), .ref (a 4), .ref (a 5), .int (d 4 0)])), ((a 2), .inl (E.2.1, 8, .inl (d 0))), ((a 3), .inl (E.2.1, 8, .inl (upd (d 1) i.toNatClampNeg v))), ((a 4), .inl (E.2.1, 8, .inl (d 2))), ((a 5), .inl (E.2.1, 8, .inl (d 3)))]) rfl (fun _ => rfl) rfl (Nat.le_of_ble_eq_true rfl) ⟨Nat.le_of_ble_eq_true rfl, Nat.le_of_ble_eq_true rfl⟩ rfl dX2_storeReading_33 (fun r_6 _ e_7 => ?_)
      subst e_7
      refine x_ifB_eq (tgt := 43) C dX2_storeReading_36 (by decide) (fun c_36 => ?_) (fun c_36 => ?_)
      · refine x_iconst (v := 0) C dX2_storeReading_43 (by decide) ?_
        have q_8 : f_X2_storeReading_d d i v n = (rs d 1 i.toNatClampNeg v) := (by unfold f_X2_storeReading_d; rw [if_pos c_5, if_pos c_18, if_neg c_36])
        exact x_iret C hr hlocks rfl () (Eq.symm (by unfold f_X2_storeReading_r; rw [if_pos c_5, if_pos c_18, if_neg c_36])) (by rw [q_8]; exact gEq.rf _) dX2_storeReading_44
      · refine x_iconst (v := 1) C dX2_storeReading_39 (by decide) ?_
        refine x_goto (tgt := 44) C dX2_storeReading_40 (by decide) ?_
        have q_9 : f_X2_storeReading_d d i v n = (rs d 1 i.toNatClampNeg v) := (by unfold f_X2_storeReading_d; rw [if_pos c_5, if_pos c_18, if_pos c_36])
        exact x_iret C hr hlocks rfl () (Eq.symm (by unfold f_X2_storeReading_r; rw [if_pos c_5, if_pos c_18, if_pos c_36])) (by rw [q_9]; exact gEq.rf _) dX2_storeReading_44
    · refine x_bipush (v := (-2)) C dX2_storeReading_21 (by decide) ?_
      have q_10 : f_X2_storeReading_d d i v n = d := (by unfold f_X2_storeReading_d; rw [if_pos c_5, if_neg c_18])
      exact x_iret C hr hlocks rfl () (Eq.symm (by unfold f_X2_storeReading_r; rw [if_pos c_5, if_neg c_18])) (by rw [q_10]; exact gEq.rf _) dX2_storeReading_23
def f_X2_storeAlarm_r (d : Nat → Nat → Int32) (i : Int32) (ru : Int32) (v : Int32) (n : Nat) : Int32 := if 0 ≤ i ∧ i < d 4 0 then (if 0 ≤ ru ∧ ru ≤ 3 then (if (-999) ≤ v ∧ v ≤ 999 then (if alarmB ((rs (rs d 2 i.toNatClampNeg ru) 3 i.toNatClampNeg v) 1 i.toNatClampNeg) ((rs (rs d 2 i.toNatClampNeg ru) 3 i.toNatClampNeg v) 2 i.toNatClampNeg) ((rs (rs d 2 i.toNatClampNeg ru) 3 i.toNatClampNeg v) 3 i.toNatClampNeg) = true then 1 else 0) else (-2)) else (-2)) else (-2)
def f_X2_storeAlarm_d (d : Nat → Nat → Int32) (i : Int32) (ru : Int32) (v : Int32) (n : Nat) : Nat → Nat → Int32 := if 0 ≤ i ∧ i < d 4 0 then (if 0 ≤ ru ∧ ru ≤ 3 then (if (-999) ≤ v ∧ v ≤ 999 then (if alarmB ((rs (rs d 2 i.toNatClampNeg ru) 3 i.toNatClampNeg v) 1 i.toNatClampNeg) ((rs (rs d 2 i.toNatClampNeg ru) 3 i.toNatClampNeg v) 2 i.toNatClampNeg) ((rs (rs d 2 i.toNatClampNeg ru) 3 i.toNatClampNeg v) 3 i.toNatClampNeg) = true then (rs (rs d 2 i.toNatClampNeg ru) 3 i.toNatClampNeg v) else (rs (rs d 2 i.toNatClampNeg ru) 3 i.toNatClampNeg v)) else d) else d) else d
set_option maxHeartbeats 4000000 in
set_option maxRecDepth 100000 in
theorem c_X2_storeAlarm (l : Launch) (E : gE) (a : Nat → Nat) (d : Nat → Nat → Int32) (i : Int32) (ru : Int32) (v : Int32) (n : Nat) (hn : d 4 0 = nI n) (h8 : n ≤ 8) : CtI l E yX2_storeAlarm prog_4_method_7_code 4 (some .int) 2 37 0 0 [.ref (a 1), .int i, .int ru, .int v] [((a 1), .inr (2, [.ref (a 2), .ref (a 3), .ref (a 4), .ref (a 5), .int (d 4 0)])), ((a 2), .inl (E.2.1, 8, .inl (d 0))), ((a 3), .inl (E.2.1, 8, .inl (d 1))), ((a 4), .inl (E.2.1, 8, .inl (d 2))), ((a 5), .inl (E.2.1, 8, .inl (d 3)))] (fun r (_ : Unit) => r = f_X2_storeAlarm_r d i ru v n) (fun _ => [((a 1), .inr (2, [.ref (a 2), .ref (a 3), .ref (a 4), .ref (a 5), .int ((f_X2_storeAlarm_d d i ru v n) 4 0)])), ((a 2), .inl (E.2.1, 8, .inl ((f_X2_storeAlarm_d d i ru v n) 0))), ((a 3), .inl (E.2.1, 8, .inl ((f_X2_storeAlarm_d d i ru v n) 1))), ((a 4), .inl (E.2.1, 8, .inl ((f_X2_storeAlarm_d d i ru v n) 2))), ((a 5), .inl (E.2.1, 8, .inl ((f_X2_storeAlarm_d d i ru v n) 3)))]) := by
  refine CtI.start (by decide) (Nat.le_of_ble_eq_true rfl) ?_
  intro p_ e_ s_ m_ below_ meth_ c_ A_ C hr hlocks hnm
  refine Wd.cast (lv1 := [(0, .ref (a 1)), (1, .int i), (2, .int ru), (3, .int v)]) rfl rfl rfl ?_
  refine x_aload_n C dX2_storeAlarm_0 0 rfl ?_
  refine x_iload_n C dX2_storeAlarm_1 1 rfl ?_
  refine x_callVI (wc := [((a 1), .inr (2, [.ref (a 2), .ref (a 3), .ref (a 4), .ref (a 5), .int (d 4 0)]))]) (wr := [((a 2), .inl (E.2.1, 8, .inl (d 0))), ((a 3), .inl (E.2.1, 8, .inl (d 1))), ((a 4), .inl (E.2.1, 8, .inl (d 2))), ((a 5), .inl (E.2.1, 8, .inl (d 3)))]) (As := [.int i]) (rest := []) (ci := 2) (q0 := 0) C (c_X2_has l E a d i ) (gWV C kw_ml_X2_46 kw_im_X2_has kw_sel_X2_has kw_ini_X2 kw_code_X2_has ga_X2_has ⟨Nat.le_of_ble_eq_true rfl, Nat.le_of_ble_eq_true rfl⟩) rfl rfl [0] [1, 2, 3, 4] [4, 0, 1, 2, 3] rfl rfl rfl rfl (by decide) (fun _ => [((a 1), .inr (2, [.ref (a 2), .ref (a 3), .ref (a 4), .ref (a 5), .int (d 4 0)])), ((a 2), .inl (E.2.1, 8, .inl (d 0))), ((a 3), .inl (E.2.1, 8, .inl (d 1))), ((a 4), .inl (E.2.1, 8, .inl (d 2))), ((a 5), .inl (E.2.1, 8, .inl (d 3)))]) rfl (fun _ => rfl) rfl (Nat.le_of_ble_eq_true rfl) ⟨Nat.le_of_ble_eq_true rfl, Nat.le_of_ble_eq_true rfl⟩ rfl dX2_storeAlarm_2 (fun r_1 _ e_2 => ?_)
  subst e_2
  refine x_ifB_eq (tgt := 30) C dX2_storeAlarm_5 (by decide) (fun c_5 => ?_) (fun c_5 => ?_)
  · refine x_bipush (v := (-2)) C dX2_storeAlarm_30 (by decide) ?_
    have q_3 : f_X2_storeAlarm_d d i ru v n = d := (by unfold f_X2_storeAlarm_d; rw [if_neg c_5])
    exact x_iret C hr hlocks rfl () (Eq.symm (by unfold f_X2_storeAlarm_r; rw [if_neg c_5])) (by rw [q_3]; exact gEq.rf _) dX2_storeAlarm_32
  · refine x_iload_n C dX2_storeAlarm_8 2 rfl ?_
    refine x_iconst (v := 0) C dX2_storeAlarm_9 (by decide) ?_
    refine x_iconst (v := 3) C dX2_storeAlarm_10 (by decide) ?_
    refine x_callNI (wc := []) (wr := [((a 1), .inr (2, [.ref (a 2), .ref (a 3), .ref (a 4), .ref (a 5), .int (d 4 0)])), ((a 2), .inl (E.2.1, 8, .inl (d 0))), ((a 3), .inl (E.2.1, 8, .inl (d 1))), ((a 4), .inl (E.2.1, 8, .inl (d 2))), ((a 5), .inl (E.2.1, 8, .inl (d 3)))]) (As := [.int ru, .int 0, .int 3]) (rest := []) C (c_X5_isWithin l E ru 0 3 ) (gWN (host := RX5) C (by unfold gNest; exact List.mem_of_getElem? (i := 0) rfl) kw_st_X5_isWithin kw_ini_X5 kw_code_X5_isWithin ga_X5_isWithin ⟨Nat.le_of_ble_eq_true rfl, Nat.le_of_ble_eq_true rfl⟩) [] [0, 1, 2, 3, 4] [0, 1, 2, 3, 4] rfl rfl rfl rfl (by decide) (fun _ => [((a 1), .inr (2, [.ref (a 2), .ref (a 3), .ref (a 4), .ref (a 5), .int (d 4 0)])), ((a 2), .inl (E.2.1, 8, .inl (d 0))), ((a 3), .inl (E.2.1, 8, .inl (d 1))), ((a 4), .inl (E.2.1, 8, .inl (d 2))), ((a 5), .inl (E.2.1, 8, .inl (d 3)))]) rfl (fun _ => rfl) rfl (Nat.le_of_ble_eq_true rfl) ⟨Nat.le_of_ble_eq_true rfl, Nat.le_of_ble_eq_true rfl⟩ rfl dX2_storeAlarm_11 (fun r_4 _ e_5 => ?_)
    subst e_5
    refine x_ifB_eq (tgt := 30) C dX2_storeAlarm_14 (by decide) (fun c_14 => ?_) (fun c_14 => ?_)
    · refine x_bipush (v := (-2)) C dX2_storeAlarm_30 (by decide) ?_
      have q_6 : f_X2_storeAlarm_d d i ru v n = d := (by unfold f_X2_storeAlarm_d; rw [if_pos c_5, if_neg c_14])
      exact x_iret C hr hlocks rfl () (Eq.symm (by unfold f_X2_storeAlarm_r; rw [if_pos c_5, if_neg c_14])) (by rw [q_6]; exact gEq.rf _) dX2_storeAlarm_32
    · refine x_iload_n C dX2_storeAlarm_17 3 rfl ?_
      refine x_sipush (v := (-999)) C dX2_storeAlarm_18 (by decide) ?_
      refine x_sipush (v := 999) C dX2_storeAlarm_21 (by decide) ?_
      refine x_callNI (wc := []) (wr := [((a 1), .inr (2, [.ref (a 2), .ref (a 3), .ref (a 4), .ref (a 5), .int (d 4 0)])), ((a 2), .inl (E.2.1, 8, .inl (d 0))), ((a 3), .inl (E.2.1, 8, .inl (d 1))), ((a 4), .inl (E.2.1, 8, .inl (d 2))), ((a 5), .inl (E.2.1, 8, .inl (d 3)))]) (As := [.int v, .int (-999), .int 999]) (rest := []) C (c_X5_isWithin l E v (-999) 999 ) (gWN (host := RX5) C (by unfold gNest; exact List.mem_of_getElem? (i := 0) rfl) kw_st_X5_isWithin kw_ini_X5 kw_code_X5_isWithin ga_X5_isWithin ⟨Nat.le_of_ble_eq_true rfl, Nat.le_of_ble_eq_true rfl⟩) [] [0, 1, 2, 3, 4] [0, 1, 2, 3, 4] rfl rfl rfl rfl (by decide) (fun _ => [((a 1), .inr (2, [.ref (a 2), .ref (a 3), .ref (a 4), .ref (a 5), .int (d 4 0)])), ((a 2), .inl (E.2.1, 8, .inl (d 0))), ((a 3), .inl (E.2.1, 8, .inl (d 1))), ((a 4), .inl (E.2.1, 8, .inl (d 2))), ((a 5), .inl (E.2.1, 8, .inl (d 3)))]) rfl (fun _ => rfl) rfl (Nat.le_of_ble_eq_true rfl) ⟨Nat.le_of_ble_eq_true rfl, Nat.le_of_ble_eq_true rfl⟩ rfl dX2_storeAlarm_24 (fun r_7 _ e_8 => ?_)
      subst e_8
      refine x_ifB_ne (tgt := 33) C dX2_storeAlarm_27 (by decide) (fun c_27 => ?_) (fun c_27 => ?_)
      · refine x_aload_n C dX2_storeAlarm_33 0 rfl ?_
        refine x_get (ref := "RomSearchBus$Devices") (v := .ref (a 4)) C inX2 0 2 rfl rfl (by decide) kw_fl_X2_18 rfl rfl dX2_storeAlarm_34 ?_
        refine x_iload_n C dX2_storeAlarm_37 1 rfl ?_
        refine x_iload_n C dX2_storeAlarm_38 2 rfl ?_
        refine x_iastN C 3 rfl (i32_in c_5 hn (by omega)).2 (Nat.lt_of_lt_of_le (i32_in c_5 hn (by omega)).1 h8) (by decide) [((a 1), .inr (2, [.ref (a 2), .ref (a 3), .ref (a 4), .ref (a 5), .int (d 4 0)])), ((a 2), .inl (E.2.1, 8, .inl (d 0))), ((a 3), .inl (E.2.1, 8, .inl (d 1))), ((a 4), .inl (E.2.1, 8, .inl (upd (d 2) i.toNatClampNeg ru))), ((a 5), .inl (E.2.1, 8, .inl (d 3)))] rfl dX2_storeAlarm_39 ?_
        refine x_aload_n C dX2_storeAlarm_40 0 rfl ?_
        refine x_get (ref := "RomSearchBus$Devices") (v := .ref (a 5)) C inX2 0 3 rfl rfl (by decide) kw_fl_X2_21 rfl rfl dX2_storeAlarm_41 ?_
        refine x_iload_n C dX2_storeAlarm_44 1 rfl ?_
        refine x_iload_n C dX2_storeAlarm_45 3 rfl ?_
        refine x_iastN C 4 rfl (i32_in c_5 hn (by omega)).2 (Nat.lt_of_lt_of_le (i32_in c_5 hn (by omega)).1 h8) (by decide) [((a 1), .inr (2, [.ref (a 2), .ref (a 3), .ref (a 4), .ref (a 5), .int (d 4 0)])), ((a 2), .inl (E.2.1, 8, .inl (d 0))), ((a 3), .inl (E.2.1, 8, .inl (d 1))), ((a 4), .inl (E.2.1, 8, .inl (upd (d 2) i.toNatClampNeg ru))), ((a 5), .inl (E.2.1, 8, .inl (upd (d 3) i.toNatClampNeg v)))] rfl dX2_storeAlarm_46 ?_
        refine x_aload_n C dX2_storeAlarm_47 0 rfl ?_
        refine x_iload_n C dX2_storeAlarm_48 1 rfl ?_
        refine x_callVI (wc := [((a 1), .inr (2, [.ref (a 2), .ref (a 3), .ref (a 4), .ref (a 5), .int (d 4 0)])), ((a 2), .inl (E.2.1, 8, .inl (d 0))), ((a 3), .inl (E.2.1, 8, .inl (d 1))), ((a 4), .inl (E.2.1, 8, .inl (upd (d 2) i.toNatClampNeg ru))), ((a 5), .inl (E.2.1, 8, .inl (upd (d 3) i.toNatClampNeg v)))]) (wr := []) (As := [.int i]) (rest := []) (ci := 2) (q0 := 0) C (c_X2_isAlarmed l E a (rs (rs d 2 i.toNatClampNeg ru) 3 i.toNatClampNeg v) i i.toNatClampNeg (i32_in c_5 hn (by omega)).2 (Nat.lt_of_lt_of_le (i32_in c_5 hn (by omega)).1 h8)) (gWV C kw_ml_X2_53 kw_im_X2_isAlarmed kw_sel_X2_isAlarmed kw_ini_X2 kw_code_X2_isAlarmed ga_X2_isAlarmed ⟨Nat.le_of_ble_eq_true rfl, Nat.le_of_ble_eq_true rfl⟩) rfl rfl [0, 1, 2, 3, 4] [] [0, 1, 2, 3, 4] rfl rfl rfl rfl (by decide) (fun _ => [((a 1), .inr (2, [.ref (a 2), .ref (a 3), .ref (a 4), .ref (a 5), .int (d 4 0)])), ((a 2), .inl (E.2.1, 8, .inl (d 0))), ((a 3), .inl (E.2.1, 8, .inl (d 1))), ((a 4), .inl (E.2.1, 8, .inl (upd (d 2) i.toNatClampNeg ru))), ((a 5), .inl (E.2.1, 8, .inl (upd (d 3) i.toNatClampNeg v)))]) rfl (fun _ => rfl) rfl (Nat.le_of_ble_eq_true rfl) ⟨Nat.le_of_ble_eq_true rfl, Nat.le_of_ble_eq_true rfl⟩ rfl dX2_storeAlarm_49 (fun r_9 _ e_10 => ?_)
        subst e_10
        refine x_ifB_eq (tgt := 59) C dX2_storeAlarm_52 (by decide) (fun c_52 => ?_) (fun c_52 => ?_)
        · refine x_iconst (v := 0) C dX2_storeAlarm_59 (by decide) ?_
          have q_11 : f_X2_storeAlarm_d d i ru v n = (rs (rs d 2 i.toNatClampNeg ru) 3 i.toNatClampNeg v) := (by unfold f_X2_storeAlarm_d; rw [if_pos c_5, if_pos c_14, if_pos c_27, if_neg c_52])
          exact x_iret C hr hlocks rfl () (Eq.symm (by unfold f_X2_storeAlarm_r; rw [if_pos c_5, if_pos c_14, if_pos c_27, if_neg c_52])) (by rw [q_11]; exact gEq.rf _) dX2_storeAlarm_60
        · refine x_iconst (v := 1) C dX2_storeAlarm_55 (by decide) ?_
          refine x_goto (tgt := 60) C dX2_storeAlarm_56 (by decide) ?_
          have q_12 : f_X2_storeAlarm_d d i ru v n = (rs (rs d 2 i.toNatClampNeg ru) 3 i.toNatClampNeg v) := (by unfold f_X2_storeAlarm_d; rw [if_pos c_5, if_pos c_14, if_pos c_27, if_pos c_52])
          exact x_iret C hr hlocks rfl () (Eq.symm (by unfold f_X2_storeAlarm_r; rw [if_pos c_5, if_pos c_14, if_pos c_27, if_pos c_52])) (by rw [q_12]; exact gEq.rf _) dX2_storeAlarm_60
      · refine x_bipush (v := (-2)) C dX2_storeAlarm_30 (by decide) ?_
        have q_13 : f_X2_storeAlarm_d d i ru v n = d := (by unfold f_X2_storeAlarm_d; rw [if_pos c_5, if_pos c_14, if_neg c_27])
        exact x_iret C hr hlocks rfl () (Eq.symm (by unfold f_X2_storeAlarm_r; rw [if_pos c_5, if_pos c_14, if_neg c_27])) (by rw [q_13]; exact gEq.rf _) dX2_storeAlarm_32
set_option maxHeartbeats 4000000 in
set_option maxRecDepth 100000 in
theorem c_X2_copyFrom (l : Launch) (E : gE) (a : Nat → Nat) (d : Nat → Nat → Int32) (o : Nat → Nat) (f : Nat → Nat → Int32)  : CtV l E yX2_copyFrom prog_4_method_2_code 2 none 1 30 0 0 [.ref (a 1), .ref (o 1)] [((a 1), .inr (2, [.ref (a 2), .ref (a 3), .ref (a 4), .ref (a 5), .int (d 4 0)])), ((a 2), .inl (E.2.1, 8, .inl (d 0))), ((a 3), .inl (E.2.1, 8, .inl (d 1))), ((a 4), .inl (E.2.1, 8, .inl (d 2))), ((a 5), .inl (E.2.1, 8, .inl (d 3))), ((o 1), .inr (2, [.ref (o 2), .ref (o 3), .ref (o 4), .ref (o 5), .int (f 4 0)])), ((o 2), .inl (E.2.1, 8, .inl (f 0))), ((o 3), .inl (E.2.1, 8, .inl (f 1))), ((o 4), .inl (E.2.1, 8, .inl (f 2))), ((o 5), .inl (E.2.1, 8, .inl (f 3)))] (fun _ : Unit => True) (fun _ => [((a 1), .inr (2, [.ref (a 2), .ref (a 3), .ref (a 4), .ref (a 5), .int (f 4 0)])), ((a 2), .inl (E.2.1, 8, .inl (f 0))), ((a 3), .inl (E.2.1, 8, .inl (f 1))), ((a 4), .inl (E.2.1, 8, .inl (f 2))), ((a 5), .inl (E.2.1, 8, .inl (f 3))), ((o 1), .inr (2, [.ref (o 2), .ref (o 3), .ref (o 4), .ref (o 5), .int (f 4 0)])), ((o 2), .inl (E.2.1, 8, .inl (f 0))), ((o 3), .inl (E.2.1, 8, .inl (f 1))), ((o 4), .inl (E.2.1, 8, .inl (f 2))), ((o 5), .inl (E.2.1, 8, .inl (f 3)))]) := by
  refine CtV.start (by decide) (Nat.le_of_ble_eq_true rfl) ?_
  intro p_ e_ s_ m_ below_ meth_ c_ A_ C hr hlocks hnm
  refine Wd.cast (lv1 := [(0, .ref (a 1)), (1, .ref (o 1))]) rfl rfl rfl ?_
  refine x_aload_n C dX2_copyFrom_0 1 rfl ?_
  refine x_get (ref := "RomSearchBus$Devices") (v := .ref (o 2)) C inX2 5 0 rfl rfl (by decide) kw_fl_X2_11 rfl rfl dX2_copyFrom_1 ?_
  refine x_iconst (v := 0) C dX2_copyFrom_4 (by decide) ?_
  refine x_aload_n C dX2_copyFrom_5 0 rfl ?_
  refine x_get (ref := "RomSearchBus$Devices") (v := .ref (a 2)) C inX2 0 0 rfl rfl (by decide) kw_fl_X2_11 rfl rfl dX2_copyFrom_6 ?_
  refine x_iconst (v := 0) C dX2_copyFrom_9 (by decide) ?_
  refine x_bipush (v := 8) C dX2_copyFrom_10 (by decide) ?_
  refine x_copy C kw_ml_X2_28 6 1 rfl rfl (by decide) (by decide) (by decide) (by decide) (by decide) (Nat.le_of_ble_eq_true rfl) (Nat.le_of_ble_eq_true rfl) [((a 1), .inr (2, [.ref (a 2), .ref (a 3), .ref (a 4), .ref (a 5), .int ((va_up d 0 (va_cpy (f 0) (d 0) 0 0 8)) 4 0)])), ((a 2), .inl (E.2.1, 8, .inl ((va_up d 0 (va_cpy (f 0) (d 0) 0 0 8)) 0))), ((a 3), .inl (E.2.1, 8, .inl ((va_up d 0 (va_cpy (f 0) (d 0) 0 0 8)) 1))), ((a 4), .inl (E.2.1, 8, .inl ((va_up d 0 (va_cpy (f 0) (d 0) 0 0 8)) 2))), ((a 5), .inl (E.2.1, 8, .inl ((va_up d 0 (va_cpy (f 0) (d 0) 0 0 8)) 3))), ((o 1), .inr (2, [.ref (o 2), .ref (o 3), .ref (o 4), .ref (o 5), .int (f 4 0)])), ((o 2), .inl (E.2.1, 8, .inl (f 0))), ((o 3), .inl (E.2.1, 8, .inl (f 1))), ((o 4), .inl (E.2.1, 8, .inl (f 2))), ((o 5), .inl (E.2.1, 8, .inl (f 3)))] rfl dX2_copyFrom_12 ?_
  refine x_aload_n C dX2_copyFrom_15 1 rfl ?_
  refine x_get (ref := "RomSearchBus$Devices") (v := .ref (o 3)) C inX2 5 1 rfl rfl (by decide) kw_fl_X2_15 rfl rfl dX2_copyFrom_16 ?_
  refine x_iconst (v := 0) C dX2_copyFrom_19 (by decide) ?_
  refine x_aload_n C dX2_copyFrom_20 0 rfl ?_
  refine x_get (ref := "RomSearchBus$Devices") (v := .ref (a 3)) C inX2 0 1 rfl rfl (by decide) kw_fl_X2_15 rfl rfl dX2_copyFrom_21 ?_
  refine x_iconst (v := 0) C dX2_copyFrom_24 (by decide) ?_
  refine x_bipush (v := 8) C dX2_copyFrom_25 (by decide) ?_
  refine x_copy C kw_ml_X2_28 7 2 rfl rfl (by decide) (by decide) (by decide) (by decide) (by decide) (Nat.le_of_ble_eq_true rfl) (Nat.le_of_ble_eq_true rfl) [((a 1), .inr (2, [.ref (a 2), .ref (a 3), .ref (a 4), .ref (a 5), .int ((va_up (va_up d 0 (va_cpy (f 0) (d 0) 0 0 8)) 1 (va_cpy (f 1) ((va_up d 0 (va_cpy (f 0) (d 0) 0 0 8)) 1) 0 0 8)) 4 0)])), ((a 2), .inl (E.2.1, 8, .inl ((va_up (va_up d 0 (va_cpy (f 0) (d 0) 0 0 8)) 1 (va_cpy (f 1) ((va_up d 0 (va_cpy (f 0) (d 0) 0 0 8)) 1) 0 0 8)) 0))), ((a 3), .inl (E.2.1, 8, .inl ((va_up (va_up d 0 (va_cpy (f 0) (d 0) 0 0 8)) 1 (va_cpy (f 1) ((va_up d 0 (va_cpy (f 0) (d 0) 0 0 8)) 1) 0 0 8)) 1))), ((a 4), .inl (E.2.1, 8, .inl ((va_up (va_up d 0 (va_cpy (f 0) (d 0) 0 0 8)) 1 (va_cpy (f 1) ((va_up d 0 (va_cpy (f 0) (d 0) 0 0 8)) 1) 0 0 8)) 2))), ((a 5), .inl (E.2.1, 8, .inl ((va_up (va_up d 0 (va_cpy (f 0) (d 0) 0 0 8)) 1 (va_cpy (f 1) ((va_up d 0 (va_cpy (f 0) (d 0) 0 0 8)) 1) 0 0 8)) 3))), ((o 1), .inr (2, [.ref (o 2), .ref (o 3), .ref (o 4), .ref (o 5), .int (f 4 0)])), ((o 2), .inl (E.2.1, 8, .inl (f 0))), ((o 3), .inl (E.2.1, 8, .inl (f 1))), ((o 4), .inl (E.2.1, 8, .inl (f 2))), ((o 5), .inl (E.2.1, 8, .inl (f 3)))] rfl dX2_copyFrom_27 ?_
  refine x_aload_n C dX2_copyFrom_30 1 rfl ?_
  refine x_get (ref := "RomSearchBus$Devices") (v := .ref (o 4)) C inX2 5 2 rfl rfl (by decide) kw_fl_X2_18 rfl rfl dX2_copyFrom_31 ?_
  refine x_iconst (v := 0) C dX2_copyFrom_34 (by decide) ?_
  refine x_aload_n C dX2_copyFrom_35 0 rfl ?_
  refine x_get (ref := "RomSearchBus$Devices") (v := .ref (a 4)) C inX2 0 2 rfl rfl (by decide) kw_fl_X2_18 rfl rfl dX2_copyFrom_36 ?_
  refine x_iconst (v := 0) C dX2_copyFrom_39 (by decide) ?_
  refine x_bipush (v := 8) C dX2_copyFrom_40 (by decide) ?_
  refine x_copy C kw_ml_X2_28 8 3 rfl rfl (by decide) (by decide) (by decide) (by decide) (by decide) (Nat.le_of_ble_eq_true rfl) (Nat.le_of_ble_eq_true rfl) [((a 1), .inr (2, [.ref (a 2), .ref (a 3), .ref (a 4), .ref (a 5), .int ((va_up (va_up (va_up d 0 (va_cpy (f 0) (d 0) 0 0 8)) 1 (va_cpy (f 1) ((va_up d 0 (va_cpy (f 0) (d 0) 0 0 8)) 1) 0 0 8)) 2 (va_cpy (f 2) ((va_up (va_up d 0 (va_cpy (f 0) (d 0) 0 0 8)) 1 (va_cpy (f 1) ((va_up d 0 (va_cpy (f 0) (d 0) 0 0 8)) 1) 0 0 8)) 2) 0 0 8)) 4 0)])), ((a 2), .inl (E.2.1, 8, .inl ((va_up (va_up (va_up d 0 (va_cpy (f 0) (d 0) 0 0 8)) 1 (va_cpy (f 1) ((va_up d 0 (va_cpy (f 0) (d 0) 0 0 8)) 1) 0 0 8)) 2 (va_cpy (f 2) ((va_up (va_up d 0 (va_cpy (f 0) (d 0) 0 0 8)) 1 (va_cpy (f 1) ((va_up d 0 (va_cpy (f 0) (d 0) 0 0 8)) 1) 0 0 8)) 2) 0 0 8)) 0))), ((a 3), .inl (E.2.1, 8, .inl ((va_up (va_up (va_up d 0 (va_cpy (f 0) (d 0) 0 0 8)) 1 (va_cpy (f 1) ((va_up d 0 (va_cpy (f 0) (d 0) 0 0 8)) 1) 0 0 8)) 2 (va_cpy (f 2) ((va_up (va_up d 0 (va_cpy (f 0) (d 0) 0 0 8)) 1 (va_cpy (f 1) ((va_up d 0 (va_cpy (f 0) (d 0) 0 0 8)) 1) 0 0 8)) 2) 0 0 8)) 1))), ((a 4), .inl (E.2.1, 8, .inl ((va_up (va_up (va_up d 0 (va_cpy (f 0) (d 0) 0 0 8)) 1 (va_cpy (f 1) ((va_up d 0 (va_cpy (f 0) (d 0) 0 0 8)) 1) 0 0 8)) 2 (va_cpy (f 2) ((va_up (va_up d 0 (va_cpy (f 0) (d 0) 0 0 8)) 1 (va_cpy (f 1) ((va_up d 0 (va_cpy (f 0) (d 0) 0 0 8)) 1) 0 0 8)) 2) 0 0 8)) 2))), ((a 5), .inl (E.2.1, 8, .inl ((va_up (va_up (va_up d 0 (va_cpy (f 0) (d 0) 0 0 8)) 1 (va_cpy (f 1) ((va_up d 0 (va_cpy (f 0) (d 0) 0 0 8)) 1) 0 0 8)) 2 (va_cpy (f 2) ((va_up (va_up d 0 (va_cpy (f 0) (d 0) 0 0 8)) 1 (va_cpy (f 1) ((va_up d 0 (va_cpy (f 0) (d 0) 0 0 8)) 1) 0 0 8)) 2) 0 0 8)) 3))), ((o 1), .inr (2, [.ref (o 2), .ref (o 3), .ref (o 4), .ref (o 5), .int (f 4 0)])), ((o 2), .inl (E.2.1, 8, .inl (f 0))), ((o 3), .inl (E.2.1, 8, .inl (f 1))), ((o 4), .inl (E.2.1, 8, .inl (f 2))), ((o 5), .inl (E.2.1, 8, .inl (f 3)))] rfl dX2_copyFrom_42 ?_
  refine x_aload_n C dX2_copyFrom_45 1 rfl ?_
  refine x_get (ref := "RomSearchBus$Devices") (v := .ref (o 5)) C inX2 5 3 rfl rfl (by decide) kw_fl_X2_21 rfl rfl dX2_copyFrom_46 ?_
  refine x_iconst (v := 0) C dX2_copyFrom_49 (by decide) ?_
  refine x_aload_n C dX2_copyFrom_50 0 rfl ?_
  refine x_get (ref := "RomSearchBus$Devices") (v := .ref (a 5)) C inX2 0 3 rfl rfl (by decide) kw_fl_X2_21 rfl rfl dX2_copyFrom_51 ?_
  refine x_iconst (v := 0) C dX2_copyFrom_54 (by decide) ?_
  refine x_bipush (v := 8) C dX2_copyFrom_55 (by decide) ?_
  refine x_copy C kw_ml_X2_28 9 4 rfl rfl (by decide) (by decide) (by decide) (by decide) (by decide) (Nat.le_of_ble_eq_true rfl) (Nat.le_of_ble_eq_true rfl) [((a 1), .inr (2, [.ref (a 2), .ref (a 3), .ref (a 4), .ref (a 5), .int ((va_up (va_up (va_up (va_up d 0 (va_cpy (f 0) (d 0) 0 0 8)) 1 (va_cpy (f 1) ((va_up d 0 (va_cpy (f 0) (d 0) 0 0 8)) 1) 0 0 8)) 2 (va_cpy (f 2) ((va_up (va_up d 0 (va_cpy (f 0) (d 0) 0 0 8)) 1 (va_cpy (f 1) ((va_up d 0 (va_cpy (f 0) (d 0) 0 0 8)) 1) 0 0 8)) 2) 0 0 8)) 3 (va_cpy (f 3) ((va_up (va_up (va_up d 0 (va_cpy (f 0) (d 0) 0 0 8)) 1 (va_cpy (f 1) ((va_up d 0 (va_cpy (f 0) (d 0) 0 0 8)) 1) 0 0 8)) 2 (va_cpy (f 2) ((va_up (va_up d 0 (va_cpy (f 0) (d 0) 0 0 8)) 1 (va_cpy (f 1) ((va_up d 0 (va_cpy (f 0) (d 0) 0 0 8)) 1) 0 0 8)) 2) 0 0 8)) 3) 0 0 8)) 4 0)])), ((a 2), .inl (E.2.1, 8, .inl ((va_up (va_up (va_up (va_up d 0 (va_cpy (f 0) (d 0) 0 0 8)) 1 (va_cpy (f 1) ((va_up d 0 (va_cpy (f 0) (d 0) 0 0 8)) 1) 0 0 8)) 2 (va_cpy (f 2) ((va_up (va_up d 0 (va_cpy (f 0) (d 0) 0 0 8)) 1 (va_cpy (f 1) ((va_up d 0 (va_cpy (f 0) (d 0) 0 0 8)) 1) 0 0 8)) 2) 0 0 8)) 3 (va_cpy (f 3) ((va_up (va_up (va_up d 0 (va_cpy (f 0) (d 0) 0 0 8)) 1 (va_cpy (f 1) ((va_up d 0 (va_cpy (f 0) (d 0) 0 0 8)) 1) 0 0 8)) 2 (va_cpy (f 2) ((va_up (va_up d 0 (va_cpy (f 0) (d 0) 0 0 8)) 1 (va_cpy (f 1) ((va_up d 0 (va_cpy (f 0) (d 0) 0 0 8)) 1) 0 0 8)) 2) 0 0 8)) 3) 0 0 8)) 0))), ((a 3), .inl (E.2.1, 8, .inl ((va_up (va_up (va_up (va_up d 0 (va_cpy (f 0) (d 0) 0 0 8)) 1 (va_cpy (f 1) ((va_up d 0 (va_cpy (f 0) (d 0) 0 0 8)) 1) 0 0 8)) 2 (va_cpy (f 2) ((va_up (va_up d 0 (va_cpy (f 0) (d 0) 0 0 8)) 1 (va_cpy (f 1) ((va_up d 0 (va_cpy (f 0) (d 0) 0 0 8)) 1) 0 0 8)) 2) 0 0 8)) 3 (va_cpy (f 3) ((va_up (va_up (va_up d 0 (va_cpy (f 0) (d 0) 0 0 8)) 1 (va_cpy (f 1) ((va_up d 0 (va_cpy (f 0) (d 0) 0 0 8)) 1) 0 0 8)) 2 (va_cpy (f 2) ((va_up (va_up d 0 (va_cpy (f 0) (d 0) 0 0 8)) 1 (va_cpy (f 1) ((va_up d 0 (va_cpy (f 0) (d 0) 0 0 8)) 1) 0 0 8)) 2) 0 0 8)) 3) 0 0 8)) 1))), ((a 4), .inl (E.2.1, 8, .inl ((va_up (va_up (va_up (va_up d 0 (va_cpy (f 0) (d 0) 0 0 8)) 1 (va_cpy (f 1) ((va_up d 0 (va_cpy (f 0) (d 0) 0 0 8)) 1) 0 0 8)) 2 (va_cpy (f 2) ((va_up (va_up d 0 (va_cpy (f 0) (d 0) 0 0 8)) 1 (va_cpy (f 1) ((va_up d 0 (va_cpy (f 0) (d 0) 0 0 8)) 1) 0 0 8)) 2) 0 0 8)) 3 (va_cpy (f 3) ((va_up (va_up (va_up d 0 (va_cpy (f 0) (d 0) 0 0 8)) 1 (va_cpy (f 1) ((va_up d 0 (va_cpy (f 0) (d 0) 0 0 8)) 1) 0 0 8)) 2 (va_cpy (f 2) ((va_up (va_up d 0 (va_cpy (f 0) (d 0) 0 0 8)) 1 (va_cpy (f 1) ((va_up d 0 (va_cpy (f 0) (d 0) 0 0 8)) 1) 0 0 8)) 2) 0 0 8)) 3) 0 0 8)) 2))), ((a 5), .inl (E.2.1, 8, .inl ((va_up (va_up (va_up (va_up d 0 (va_cpy (f 0) (d 0) 0 0 8)) 1 (va_cpy (f 1) ((va_up d 0 (va_cpy (f 0) (d 0) 0 0 8)) 1) 0 0 8)) 2 (va_cpy (f 2) ((va_up (va_up d 0 (va_cpy (f 0) (d 0) 0 0 8)) 1 (va_cpy (f 1) ((va_up d 0 (va_cpy (f 0) (d 0) 0 0 8)) 1) 0 0 8)) 2) 0 0 8)) 3 (va_cpy (f 3) ((va_up (va_up (va_up d 0 (va_cpy (f 0) (d 0) 0 0 8)) 1 (va_cpy (f 1) ((va_up d 0 (va_cpy (f 0) (d 0) 0 0 8)) 1) 0 0 8)) 2 (va_cpy (f 2) ((va_up (va_up d 0 (va_cpy (f 0) (d 0) 0 0 8)) 1 (va_cpy (f 1) ((va_up d 0 (va_cpy (f 0) (d 0) 0 0 8)) 1) 0 0 8)) 2) 0 0 8)) 3) 0 0 8)) 3))), ((o 1), .inr (2, [.ref (o 2), .ref (o 3), .ref (o 4), .ref (o 5), .int (f 4 0)])), ((o 2), .inl (E.2.1, 8, .inl (f 0))), ((o 3), .inl (E.2.1, 8, .inl (f 1))), ((o 4), .inl (E.2.1, 8, .inl (f 2))), ((o 5), .inl (E.2.1, 8, .inl (f 3)))] rfl dX2_copyFrom_57 ?_
  refine x_aload_n C dX2_copyFrom_60 0 rfl ?_
  refine x_aload_n C dX2_copyFrom_61 1 rfl ?_
  refine x_get (ref := "RomSearchBus$Devices") (v := .int (f 4 0)) C inX2 5 4 rfl rfl (by decide) kw_fl_X2_24 rfl rfl dX2_copyFrom_62 ?_
  refine x_put (ref := "RomSearchBus$Devices") C inX2 tyX2 tyX2_ok nmX2 0 4 rfl rfl (by decide) kw_fl_X2_24 rfl rfl rfl rfl (Nat.le_of_ble_eq_true rfl) [((a 1), .inr (2, [.ref (a 2), .ref (a 3), .ref (a 4), .ref (a 5), .int (f 4 0)])), ((a 2), .inl (E.2.1, 8, .inl ((va_up (va_up (va_up (va_up d 0 (va_cpy (f 0) (d 0) 0 0 8)) 1 (va_cpy (f 1) ((va_up d 0 (va_cpy (f 0) (d 0) 0 0 8)) 1) 0 0 8)) 2 (va_cpy (f 2) ((va_up (va_up d 0 (va_cpy (f 0) (d 0) 0 0 8)) 1 (va_cpy (f 1) ((va_up d 0 (va_cpy (f 0) (d 0) 0 0 8)) 1) 0 0 8)) 2) 0 0 8)) 3 (va_cpy (f 3) ((va_up (va_up (va_up d 0 (va_cpy (f 0) (d 0) 0 0 8)) 1 (va_cpy (f 1) ((va_up d 0 (va_cpy (f 0) (d 0) 0 0 8)) 1) 0 0 8)) 2 (va_cpy (f 2) ((va_up (va_up d 0 (va_cpy (f 0) (d 0) 0 0 8)) 1 (va_cpy (f 1) ((va_up d 0 (va_cpy (f 0) (d 0) 0 0 8)) 1) 0 0 8)) 2) 0 0 8)) 3) 0 0 8)) 0))), ((a 3), .inl (E.2.1, 8, .inl ((va_up (va_up (va_up (va_up d 0 (va_cpy (f 0) (d 0) 0 0 8)) 1 (va_cpy (f 1) ((va_up d 0 (va_cpy (f 0) (d 0) 0 0 8)) 1) 0 0 8)) 2 (va_cpy (f 2) ((va_up (va_up d 0 (va_cpy (f 0) (d 0) 0 0 8)) 1 (va_cpy (f 1) ((va_up d 0 (va_cpy (f 0) (d 0) 0 0 8)) 1) 0 0 8)) 2) 0 0 8)) 3 (va_cpy (f 3) ((va_up (va_up (va_up d 0 (va_cpy (f 0) (d 0) 0 0 8)) 1 (va_cpy (f 1) ((va_up d 0 (va_cpy (f 0) (d 0) 0 0 8)) 1) 0 0 8)) 2 (va_cpy (f 2) ((va_up (va_up d 0 (va_cpy (f 0) (d 0) 0 0 8)) 1 (va_cpy (f 1) ((va_up d 0 (va_cpy (f 0) (d 0) 0 0 8)) 1) 0 0 8)) 2) 0 0 8)) 3) 0 0 8)) 1))), ((a 4), .inl (E.2.1, 8, .inl ((va_up (va_up (va_up (va_up d 0 (va_cpy (f 0) (d 0) 0 0 8)) 1 (va_cpy (f 1) ((va_up d 0 (va_cpy (f 0) (d 0) 0 0 8)) 1) 0 0 8)) 2 (va_cpy (f 2) ((va_up (va_up d 0 (va_cpy (f 0) (d 0) 0 0 8)) 1 (va_cpy (f 1) ((va_up d 0 (va_cpy (f 0) (d 0) 0 0 8)) 1) 0 0 8)) 2) 0 0 8)) 3 (va_cpy (f 3) ((va_up (va_up (va_up d 0 (va_cpy (f 0) (d 0) 0 0 8)) 1 (va_cpy (f 1) ((va_up d 0 (va_cpy (f 0) (d 0) 0 0 8)) 1) 0 0 8)) 2 (va_cpy (f 2) ((va_up (va_up d 0 (va_cpy (f 0) (d 0) 0 0 8)) 1 (va_cpy (f 1) ((va_up d 0 (va_cpy (f 0) (d 0) 0 0 8)) 1) 0 0 8)) 2) 0 0 8)) 3) 0 0 8)) 2))), ((a 5), .inl (E.2.1, 8, .inl ((va_up (va_up (va_up (va_up d 0 (va_cpy (f 0) (d 0) 0 0 8)) 1 (va_cpy (f 1) ((va_up d 0 (va_cpy (f 0) (d 0) 0 0 8)) 1) 0 0 8)) 2 (va_cpy (f 2) ((va_up (va_up d 0 (va_cpy (f 0) (d 0) 0 0 8)) 1 (va_cpy (f 1) ((va_up d 0 (va_cpy (f 0) (d 0) 0 0 8)) 1) 0 0 8)) 2) 0 0 8)) 3 (va_cpy (f 3) ((va_up (va_up (va_up d 0 (va_cpy (f 0) (d 0) 0 0 8)) 1 (va_cpy (f 1) ((va_up d 0 (va_cpy (f 0) (d 0) 0 0 8)) 1) 0 0 8)) 2 (va_cpy (f 2) ((va_up (va_up d 0 (va_cpy (f 0) (d 0) 0 0 8)) 1 (va_cpy (f 1) ((va_up d 0 (va_cpy (f 0) (d 0) 0 0 8)) 1) 0 0 8)) 2) 0 0 8)) 3) 0 0 8)) 3))), ((o 1), .inr (2, [.ref (o 2), .ref (o 3), .ref (o 4), .ref (o 5), .int (f 4 0)])), ((o 2), .inl (E.2.1, 8, .inl (f 0))), ((o 3), .inl (E.2.1, 8, .inl (f 1))), ((o 4), .inl (E.2.1, 8, .inl (f 2))), ((o 5), .inl (E.2.1, 8, .inl (f 3)))] rfl dX2_copyFrom_65 ?_
  exact x_vret C hr hlocks () trivial ⟨rfl, Or.inl rfl, ⟨rfl, Or.inr (Or.inl ⟨_, _, _, _, rfl, rfl, cpy_all⟩), ⟨rfl, Or.inr (Or.inl ⟨_, _, _, _, rfl, rfl, cpy_all⟩), ⟨rfl, Or.inr (Or.inl ⟨_, _, _, _, rfl, rfl, cpy_all⟩), ⟨rfl, Or.inr (Or.inl ⟨_, _, _, _, rfl, rfl, cpy_all⟩), ⟨rfl, Or.inl rfl, ⟨rfl, Or.inl rfl, ⟨rfl, Or.inl rfl, ⟨rfl, Or.inl rfl, ⟨rfl, Or.inl rfl, trivial⟩⟩⟩⟩⟩⟩⟩⟩⟩⟩ dX2_copyFrom_68
