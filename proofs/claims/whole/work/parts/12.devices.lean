/-- is an alarm rule met -/
def absI (x : Int32) : Int32 := if 0 ≤ x then x else 0 - x
def alarmB (re ru li : Int32) : Bool := if ru = 1 then decide (li < re) else if ru = 2 then decide (re < li) else if ru = 3 then decide (absI li < absI re) else false
def alS (re ru li : Nat → Int32) : Nat → Int32
  | 0 => 0
  | k + 1 => if alarmB (re k) (ru k) (li k) = true then alS re ru li k ||| ((1 : Int32) <<< (nI k &&& 31)) else alS re ru li k
theorem alS_s (re ru li : Nat → Int32) (k : Nat) : alS re ru li (k + 1) = if alarmB (re k) (ru k) (li k) = true then alS re ru li k ||| ((1 : Int32) <<< (nI k &&& 31)) else alS re ru li k := rfl
def onS (f : Nat → Int32) (q : Int32) : Nat → Int32
  | 0 => 0
  | k + 1 => onS f q k ||| (((f k >>> (q &&& 31)) &&& 1) <<< (nI k &&& 31))
def memS (f : Nat → Int32) (q : Int32) : Nat → Int32
  | 0 => 0
  | k + 1 => if f k &&& 15 = q then memS f q k + 1 else memS f q k
theorem memS_s (f : Nat → Int32) (q : Int32) (k : Nat) : memS f q (k + 1) = if f k &&& 15 = q then memS f q k + 1 else memS f q k := rfl
def hasS (f : Nat → Int32) (q : Int32) : Nat → Bool
  | 0 => false
  | k + 1 => if f k = q then true else hasS f q k
theorem hasS_s (f : Nat → Int32) (q : Int32) (k : Nat) : hasS f q (k + 1) = if f k = q then true else hasS f q k := rfl
theorem hasS_t {f : Nat → Int32} {q : Int32} {k : Nat} (h : f k = q) : ∀ {n : Nat}, k < n → hasS f q n = true
  | 0, hk => absurd hk (Nat.not_lt_zero _)
  | n + 1, hk => by
    rw [hasS_s]
    by_cases e : f n = q
    · rw [if_pos e]
    · rw [if_neg e]
      rcases Nat.lt_succ_iff_lt_or_eq.mp hk with h1 | h1
      · exact hasS_t h h1
      · subst h1; exact absurd h e
/-- the row f with the places from K up to k taken from their right neighbours -/
def gap (f : Nat → Int32) (K k : Nat) : Nat → Int32 := fun j => if K ≤ j ∧ j < k then f (j + 1) else f j
theorem gap_0 (f : Nat → Int32) (K : Nat) : gap f K K = f := by funext j; unfold gap; rw [if_neg (by omega)]
theorem gap_s (f : Nat → Int32) {K k : Nat} (h : K ≤ k) : upd (gap f K k) k (gap f K k (k + 1)) = gap f K (k + 1) := by
  funext j
  unfold upd gap
  by_cases e : j = k
  · subst e; rw [if_pos rfl, if_neg (by omega), if_pos ⟨h, Nat.lt_succ_self _⟩]
  · rw [if_neg e]
    by_cases e2 : K ≤ j ∧ j < k
    · rw [if_pos e2, if_pos ⟨e2.1, by omega⟩]
    · rw [if_neg e2, if_neg (by omega)]
def mixD (d : Nat → Nat → Int32) (z : Int64) : Nat → Int64
  | 0 => 31 * z + (d 4 0).toInt64
  | k + 1 => 31 * (31 * (31 * (31 * mixD d z k + (d 0 k).toInt64) + (d 1 k).toInt64) + (d 2 k).toInt64) + (d 3 k).toInt64
theorem cpy_all {f g : Nat → Int32} {n : Nat} : ∀ j, j < n → va_cpy f g 0 0 n j = f j := fun j h => by unfold va_cpy; rw [if_pos ⟨Nat.zero_le _, by omega⟩, Nat.zero_add, Nat.sub_zero]
theorem upRow (d : Nat → Nat → Int32) (i : Nat) : va_up d i (d i) = d := by funext j; unfold va_up; by_cases h : j = i <;> simp [h]
theorem rsRow (d : Nat → Nat → Int32) (i k : Nat) (f : Nat → Int32) (v : Int32) : rs (va_up d i f) i k v = va_up d i (upd f k v) := by funext j; unfold rs va_up; by_cases h : j = i <;> simp [h]
set_option maxHeartbeats 4000000 in
set_option maxRecDepth 100000 in
theorem c_X2_has (l : Launch) (E : gE) (a : Nat → Nat) (d : Nat → Nat → Int32) (i : Int32)  : CtI l E yX2_has prog_4_method_3_code 2 (some .boolean) 0 0 0 0 [.ref (a 1), .int i] [((a 1), .inr (2, [.ref (a 2), .ref (a 3), .ref (a 4), .ref (a 5), .int (d 4 0)]))] (fun r (_ : Unit) => r = (if 0 ≤ i ∧ i < d 4 0 then 1 else 0)) (fun _ => [((a 1), .inr (2, [.ref (a 2), .ref (a 3), .ref (a 4), .ref (a 5), .int (d 4 0)]))]) := by
  refine CtI.start (by decide) (Nat.le_of_ble_eq_true rfl) ?_
  intro p e s m below meth c A C hr hlocks hnm
  refine Wd.cast (lv1 := [(0, .ref (a 1)), (1, .int i)]) rfl rfl rfl ?_
  refine x_iload_n C dX2_has_0 1 rfl ?_
  refine x_if_lt (tgt := 16) C dX2_has_1 (by decide) (fun c_1 => ?_) (fun c_1 => ?_)
  · refine x_iconst (v := 0) C dX2_has_16 (by decide) ?_
    exact x_iret C hr hlocks rfl () (by first | exact (if_pos (by (try simp only [Int32.lt_iff_toInt_lt, Int32.le_iff_toInt_le, ← Int32.toInt_inj] at *); omega)).symm | exact (if_neg (by (try simp only [Int32.lt_iff_toInt_lt, Int32.le_iff_toInt_le, ← Int32.toInt_inj] at *); omega)).symm) (gEq.rf _) dX2_has_17
  · refine x_iload_n C dX2_has_4 1 rfl ?_
    refine x_aload_n C dX2_has_5 0 rfl ?_
    refine x_get (ref := "RomSearchBus$Devices") (v := .int (d 4 0)) C inX2 0 4 rfl rfl (by decide) kw_fl_X2_24 rfl rfl dX2_has_6 ?_
    refine x_icmp_ge (tgt := 16) C dX2_has_9 (by decide) (fun c_9 => ?_) (fun c_9 => ?_)
    · refine x_iconst (v := 0) C dX2_has_16 (by decide) ?_
      exact x_iret C hr hlocks rfl () (by first | exact (if_pos (by (try simp only [Int32.lt_iff_toInt_lt, Int32.le_iff_toInt_le, ← Int32.toInt_inj] at *); omega)).symm | exact (if_neg (by (try simp only [Int32.lt_iff_toInt_lt, Int32.le_iff_toInt_le, ← Int32.toInt_inj] at *); omega)).symm) (gEq.rf _) dX2_has_17
    · refine x_iconst (v := 1) C dX2_has_12 (by decide) ?_
      refine x_goto (tgt := 17) C dX2_has_13 (by decide) ?_
      exact x_iret C hr hlocks rfl () (by first | exact (if_pos (by (try simp only [Int32.lt_iff_toInt_lt, Int32.le_iff_toInt_le, ← Int32.toInt_inj] at *); omega)).symm | exact (if_neg (by (try simp only [Int32.lt_iff_toInt_lt, Int32.le_iff_toInt_le, ← Int32.toInt_inj] at *); omega)).symm) (gEq.rf _) dX2_has_17
set_option maxHeartbeats 4000000 in
set_option maxRecDepth 100000 in
theorem c_X2_wholeSet (l : Launch) (E : gE) (a : Nat → Nat) (d : Nat → Nat → Int32)  : CtI l E yX2_wholeSet prog_4_method_8_code 1 (some .int) 0 0 0 0 [.ref (a 1)] [((a 1), .inr (2, [.ref (a 2), .ref (a 3), .ref (a 4), .ref (a 5), .int (d 4 0)]))] (fun r (_ : Unit) => r = (1 <<< (d 4 0 &&& 31)) - 1) (fun _ => [((a 1), .inr (2, [.ref (a 2), .ref (a 3), .ref (a 4), .ref (a 5), .int (d 4 0)]))]) := by
  refine CtI.start (by decide) (Nat.le_of_ble_eq_true rfl) ?_
  intro p e s m below meth c A C hr hlocks hnm
  refine Wd.cast (lv1 := [(0, .ref (a 1))]) rfl rfl rfl ?_
  refine x_iconst (v := 1) C dX2_wholeSet_0 (by decide) ?_
  refine x_aload_n C dX2_wholeSet_1 0 rfl ?_
  refine x_get (ref := "RomSearchBus$Devices") (v := .int (d 4 0)) C inX2 0 4 rfl rfl (by decide) kw_fl_X2_24 rfl rfl dX2_wholeSet_2 ?_
  refine x_ishl C dX2_wholeSet_5 ?_
  refine x_iconst (v := 1) C dX2_wholeSet_6 (by decide) ?_
  refine x_isub C dX2_wholeSet_7 ?_
  exact x_iret C hr hlocks rfl () rfl (gEq.rf _) dX2_wholeSet_8
set_option maxHeartbeats 4000000 in
set_option maxRecDepth 100000 in
theorem c_X2_isAlarmed (l : Launch) (E : gE) (a : Nat → Nat) (d : Nat → Nat → Int32) (i : Int32) (K : Nat) (hi : i = nI K) (hK : K < 8) : CtI l E yX2_isAlarmed prog_4_method_15_code 4 (some .boolean) 1 14 0 0 [.ref (a 1), .int i] [((a 1), .inr (2, [.ref (a 2), .ref (a 3), .ref (a 4), .ref (a 5), .int (d 4 0)])), ((a 2), .inl (E.2.1, 8, .inl (d 0))), ((a 3), .inl (E.2.1, 8, .inl (d 1))), ((a 4), .inl (E.2.1, 8, .inl (d 2))), ((a 5), .inl (E.2.1, 8, .inl (d 3)))] (fun r (_ : Unit) => r = (if alarmB (d 1 K) (d 2 K) (d 3 K) = true then 1 else 0)) (fun _ => [((a 1), .inr (2, [.ref (a 2), .ref (a 3), .ref (a 4), .ref (a 5), .int (d 4 0)])), ((a 2), .inl (E.2.1, 8, .inl (d 0))), ((a 3), .inl (E.2.1, 8, .inl (d 1))), ((a 4), .inl (E.2.1, 8, .inl (d 2))), ((a 5), .inl (E.2.1, 8, .inl (d 3)))]) := by
  refine CtI.start (by decide) (Nat.le_of_ble_eq_true rfl) ?_
  intro p e s m below meth c A C hr hlocks hnm
  refine Wd.cast (lv1 := [(0, .ref (a 1)), (1, .int i)]) rfl rfl rfl ?_
  refine x_aload_n C dX2_isAlarmed_0 0 rfl ?_
  refine x_get (ref := "RomSearchBus$Devices") (v := .ref (a 3)) C inX2 0 1 rfl rfl (by decide) kw_fl_X2_15 rfl rfl dX2_isAlarmed_1 ?_
  refine x_iload_n C dX2_isAlarmed_4 1 rfl ?_
  refine x_ialdN (x := (d 1 K)) C 2 rfl hi hK (by decide) rfl dX2_isAlarmed_5 ?_
  refine x_istore_n (lv1 := [(2, .int (d 1 K)), (0, .ref (a 1)), (1, .int i)]) C dX2_isAlarmed_6 (by decide) rfl ?_
  refine x_aload_n C dX2_isAlarmed_7 1 rfl ?_
  refine x_get (ref := "RomSearchBus$Devices") (v := .ref (a 5)) C inX2 0 3 rfl rfl (by decide) kw_fl_X2_21 rfl rfl dX2_isAlarmed_8 ?_
  refine x_iload_n C dX2_isAlarmed_11 2 rfl ?_
  refine x_ialdN (x := (d 3 K)) C 4 rfl hi hK (by decide) rfl dX2_isAlarmed_12 ?_
  refine x_istore_n (lv1 := [(3, .int (d 3 K)), (2, .int (d 1 K)), (0, .ref (a 1)), (1, .int i)]) C dX2_isAlarmed_13 (by decide) rfl ?_
  refine x_aload_n C dX2_isAlarmed_14 2 rfl ?_
  refine x_get (ref := "RomSearchBus$Devices") (v := .ref (a 4)) C inX2 0 2 rfl rfl (by decide) kw_fl_X2_18 rfl rfl dX2_isAlarmed_15 ?_
  refine x_iload_n C dX2_isAlarmed_18 3 rfl ?_
  refine x_ialdN (x := (d 2 K)) C 3 rfl hi hK (by decide) rfl dX2_isAlarmed_19 ?_
  by_cases s_20_1 : (d 2 K) = 1
  · refine x_tabIn (tgt := 48) C dX2_isAlarmed_20 (by rw [s_20_1]; decide) (by rw [s_20_1]; decide) (by rw [s_20_1]; rfl) (by decide) ?_
    refine x_iload_n C dX2_isAlarmed_48 1 rfl ?_
    refine x_iload_n C dX2_isAlarmed_49 0 rfl ?_
    refine x_icmp_le (tgt := 57) C dX2_isAlarmed_50 (by decide) (fun c_50 => ?_) (fun c_50 => ?_)
    · refine x_iconst (v := 0) C dX2_isAlarmed_57 (by decide) ?_
      exact x_iret C hr hlocks rfl () (by rw [if_neg]; unfold alarmB; rw [if_pos s_20_1]; simpa [absI] using c_50) (gEq.rf _) dX2_isAlarmed_58
    · refine x_iconst (v := 1) C dX2_isAlarmed_53 (by decide) ?_
      refine x_goto (tgt := 58) C dX2_isAlarmed_54 (by decide) ?_
      exact x_iret C hr hlocks rfl () (by rw [if_pos]; unfold alarmB; rw [if_pos s_20_1]; simpa [absI] using c_50) (gEq.rf _) dX2_isAlarmed_58
  by_cases s_20_2 : (d 2 K) = 2
  · refine x_tabIn (tgt := 59) C dX2_isAlarmed_20 (by rw [s_20_2]; decide) (by rw [s_20_2]; decide) (by rw [s_20_2]; rfl) (by decide) ?_
    refine x_iload_n C dX2_isAlarmed_59 1 rfl ?_
    refine x_iload_n C dX2_isAlarmed_60 0 rfl ?_
    refine x_icmp_ge (tgt := 68) C dX2_isAlarmed_61 (by decide) (fun c_61 => ?_) (fun c_61 => ?_)
    · refine x_iconst (v := 0) C dX2_isAlarmed_68 (by decide) ?_
      exact x_iret C hr hlocks rfl () (by rw [if_neg]; unfold alarmB; rw [if_neg s_20_1, if_pos s_20_2]; simpa [absI] using c_61) (gEq.rf _) dX2_isAlarmed_69
    · refine x_iconst (v := 1) C dX2_isAlarmed_64 (by decide) ?_
      refine x_goto (tgt := 69) C dX2_isAlarmed_65 (by decide) ?_
      exact x_iret C hr hlocks rfl () (by rw [if_pos]; unfold alarmB; rw [if_neg s_20_1, if_pos s_20_2]; simpa [absI] using c_61) (gEq.rf _) dX2_isAlarmed_69
  by_cases s_20_3 : (d 2 K) = 3
  · refine x_tabIn (tgt := 70) C dX2_isAlarmed_20 (by rw [s_20_3]; decide) (by rw [s_20_3]; decide) (by rw [s_20_3]; rfl) (by decide) ?_
    refine x_iload_n C dX2_isAlarmed_70 1 rfl ?_
    refine x_abs C kw_ml_X2_63 (Nat.le_of_ble_eq_true rfl) (Nat.le_of_ble_eq_true rfl) (Nat.zero_le _) (Nat.zero_le _) dX2_isAlarmed_71 ?_
    refine x_iload_n C dX2_isAlarmed_74 0 rfl ?_
    refine x_abs C kw_ml_X2_63 (Nat.le_of_ble_eq_true rfl) (Nat.le_of_ble_eq_true rfl) (Nat.zero_le _) (Nat.zero_le _) dX2_isAlarmed_75 ?_
    refine x_icmp_le (tgt := 85) C dX2_isAlarmed_78 (by decide) (fun c_78 => ?_) (fun c_78 => ?_)
    · refine x_iconst (v := 0) C dX2_isAlarmed_85 (by decide) ?_
      exact x_iret C hr hlocks rfl () (by rw [if_neg]; unfold alarmB; rw [if_neg s_20_1, if_neg s_20_2, if_pos s_20_3]; simpa [absI] using c_78) (gEq.rf _) dX2_isAlarmed_86
    · refine x_iconst (v := 1) C dX2_isAlarmed_81 (by decide) ?_
      refine x_goto (tgt := 86) C dX2_isAlarmed_82 (by decide) ?_
      exact x_iret C hr hlocks rfl () (by rw [if_pos]; unfold alarmB; rw [if_neg s_20_1, if_neg s_20_2, if_pos s_20_3]; simpa [absI] using c_78) (gEq.rf _) dX2_isAlarmed_86
  refine x_tabOut (tgt := 87) C dX2_isAlarmed_20 (by simp only [← Int32.toInt_inj] at s_20_1 s_20_2 s_20_3; have e0 : (1 : Int32).toInt = 1 := rfl; have e1 : (2 : Int32).toInt = 2 := rfl; have e2 : (3 : Int32).toInt = 3 := rfl; omega) (by decide) ?_
  refine x_iconst (v := 0) C dX2_isAlarmed_87 (by decide) ?_
  exact x_iret C hr hlocks rfl () (by rw [if_neg]; unfold alarmB; rw [if_neg s_20_1, if_neg s_20_2, if_neg s_20_3]; simp) (gEq.rf _) dX2_isAlarmed_88
set_option maxHeartbeats 4000000 in
set_option maxRecDepth 100000 in
theorem c_X2_alarmedSet (l : Launch) (E : gE) (a : Nat → Nat) (d : Nat → Nat → Int32) (n : Nat) (hn : d 4 0 = nI n) (h8 : n ≤ 8) : CtI l E yX2_alarmedSet prog_4_method_9_code 3 (some .int) 2 37 0 0 [.ref (a 1)] [((a 1), .inr (2, [.ref (a 2), .ref (a 3), .ref (a 4), .ref (a 5), .int (d 4 0)])), ((a 2), .inl (E.2.1, 8, .inl (d 0))), ((a 3), .inl (E.2.1, 8, .inl (d 1))), ((a 4), .inl (E.2.1, 8, .inl (d 2))), ((a 5), .inl (E.2.1, 8, .inl (d 3)))] (fun r (_ : Unit) => r = alS (d 1) (d 2) (d 3) n) (fun _ => [((a 1), .inr (2, [.ref (a 2), .ref (a 3), .ref (a 4), .ref (a 5), .int (d 4 0)])), ((a 2), .inl (E.2.1, 8, .inl (d 0))), ((a 3), .inl (E.2.1, 8, .inl (d 1))), ((a 4), .inl (E.2.1, 8, .inl (d 2))), ((a 5), .inl (E.2.1, 8, .inl (d 3)))]) := by
  refine CtI.start (by decide) (Nat.le_of_ble_eq_true rfl) ?_
  intro p e s m below meth c A C hr hlocks hnm
  refine Wd.cast (lv1 := [(0, .ref (a 1))]) rfl rfl rfl ?_
  refine x_iconst (v := 0) C dX2_alarmedSet_0 (by decide) ?_
  refine x_istore_n (lv1 := [(1, .int 0), (0, .ref (a 1))]) C dX2_alarmedSet_1 (by decide) rfl ?_
  refine x_iconst (v := 0) C dX2_alarmedSet_2 (by decide) ?_
  refine x_istore_n (lv1 := [(2, .int 0), (1, .int 0), (0, .ref (a 1))]) C dX2_alarmedSet_3 (by decide) rfl ?_
  refine Wd.locs (lv1 := [(0, .ref (a 1)), (1, .int 0), (2, .int 0)]) [2, 1, 0] rfl ?_
  refine Wd.cast (w1 := [((a 1), .inr (2, [.ref (a 2), .ref (a 3), .ref (a 4), .ref (a 5), .int (d 4 0)])), ((a 2), .inl (E.2.1, 8, .inl (d 0))), ((a 3), .inl (E.2.1, 8, .inl (d 1))), ((a 4), .inl (E.2.1, 8, .inl (d 2))), ((a 5), .inl (E.2.1, 8, .inl (d 3)))]) (lv1 := [(0, .ref (a 1)), (1, .int (alS (d 1) (d 2) (d 3) 0)), (2, .int (nI 0))]) rfl rfl rfl ?_
  refine Wd.up (W1 := fun k => [((a 1), .inr (2, [.ref (a 2), .ref (a 3), .ref (a 4), .ref (a 5), .int (d 4 0)])), ((a 2), .inl (E.2.1, 8, .inl (d 0))), ((a 3), .inl (E.2.1, 8, .inl (d 1))), ((a 4), .inl (E.2.1, 8, .inl (d 2))), ((a 5), .inl (E.2.1, 8, .inl (d 3)))]) (LV := fun k => [(0, .ref (a 1)), (1, .int (alS (d 1) (d 2) (d 3) k)), (2, .int (nI k))]) (fun k => True) 0 n (by omega) (trivial) (fun hI => ?_) (fun k hk0 hk hI ih => ?_)
  · refine Wd.cast (w1 := [((a 1), .inr (2, [.ref (a 2), .ref (a 3), .ref (a 4), .ref (a 5), .int (d 4 0)])), ((a 2), .inl (E.2.1, 8, .inl (d 0))), ((a 3), .inl (E.2.1, 8, .inl (d 1))), ((a 4), .inl (E.2.1, 8, .inl (d 2))), ((a 5), .inl (E.2.1, 8, .inl (d 3)))]) (lv1 := [(0, .ref (a 1)), (1, .int (alS (d 1) (d 2) (d 3) n)), (2, .int (nI n))]) rfl rfl rfl ?_
    refine x_iload_n C dX2_alarmedSet_4 2 rfl ?_
    refine x_aload_n C dX2_alarmedSet_5 0 rfl ?_
    refine x_get (ref := "RomSearchBus$Devices") (v := .int (d 4 0)) C inX2 0 4 rfl rfl (by decide) kw_fl_X2_24 rfl rfl dX2_alarmedSet_6 ?_
    refine x_icmp_ge (tgt := 32) C dX2_alarmedSet_9 (by decide) (fun c_9 => ?_) (fun c_9 => absurd (by rw [hn]; exact Int32.le_refl _) c_9)
    refine x_iload_n C dX2_alarmedSet_32 1 rfl ?_
    exact x_iret C hr hlocks rfl () rfl (gEq.rf _) dX2_alarmedSet_33
  · refine Wd.cast (w1 := [((a 1), .inr (2, [.ref (a 2), .ref (a 3), .ref (a 4), .ref (a 5), .int (d 4 0)])), ((a 2), .inl (E.2.1, 8, .inl (d 0))), ((a 3), .inl (E.2.1, 8, .inl (d 1))), ((a 4), .inl (E.2.1, 8, .inl (d 2))), ((a 5), .inl (E.2.1, 8, .inl (d 3)))]) (lv1 := [(0, .ref (a 1)), (1, .int (alS (d 1) (d 2) (d 3) k)), (2, .int (nI k))]) rfl rfl rfl ?_
    refine x_iload_n C dX2_alarmedSet_4 2 rfl ?_
    refine x_aload_n C dX2_alarmedSet_5 0 rfl ?_
    refine x_get (ref := "RomSearchBus$Devices") (v := .int (d 4 0)) C inX2 0 4 rfl rfl (by decide) kw_fl_X2_24 rfl rfl dX2_alarmedSet_6 ?_
    refine x_icmp_ge (tgt := 32) C dX2_alarmedSet_9 (by decide) (fun c_9 => absurd c_9 (by rw [hn]; exact nI_ge hk (by omega))) (fun c_9 => ?_)
    refine x_aload_n C dX2_alarmedSet_12 0 rfl ?_
    refine x_iload_n C dX2_alarmedSet_13 2 rfl ?_
    refine x_callVI (wc := [((a 1), .inr (2, [.ref (a 2), .ref (a 3), .ref (a 4), .ref (a 5), .int (d 4 0)])), ((a 2), .inl (E.2.1, 8, .inl (d 0))), ((a 3), .inl (E.2.1, 8, .inl (d 1))), ((a 4), .inl (E.2.1, 8, .inl (d 2))), ((a 5), .inl (E.2.1, 8, .inl (d 3)))]) (wr := []) (As := [.int (nI k)]) (rest := []) (ci := 2) (q0 := 0) C (c_X2_isAlarmed l E a d (nI k) k rfl (by omega)) (gWV C kw_ml_X2_53 kw_im_X2_isAlarmed kw_sel_X2_isAlarmed kw_ini_X2 kw_code_X2_isAlarmed ga_X2_isAlarmed ⟨Nat.le_of_ble_eq_true rfl, Nat.le_of_ble_eq_true rfl⟩) rfl rfl [0, 1, 2, 3, 4] [] [0, 1, 2, 3, 4] rfl rfl rfl rfl (by decide) (fun _ => [((a 1), .inr (2, [.ref (a 2), .ref (a 3), .ref (a 4), .ref (a 5), .int (d 4 0)])), ((a 2), .inl (E.2.1, 8, .inl (d 0))), ((a 3), .inl (E.2.1, 8, .inl (d 1))), ((a 4), .inl (E.2.1, 8, .inl (d 2))), ((a 5), .inl (E.2.1, 8, .inl (d 3)))]) rfl (fun _ => rfl) rfl (Nat.le_of_ble_eq_true rfl) ⟨Nat.le_of_ble_eq_true rfl, Nat.le_of_ble_eq_true rfl⟩ rfl dX2_alarmedSet_14 (fun r_1 _ e_2 => ?_)
    subst e_2
    refine x_ifB_eq (tgt := 26) C dX2_alarmedSet_17 (by decide) (fun c_17 => ?_) (fun c_17 => ?_)
    · refine x_iinc (j := 2) (v := (nI (k + 1))) (lv1 := [(2, .int (nI (k + 1))), (0, .ref (a 1)), (1, .int (alS (d 1) (d 2) (d 3) k))]) C dX2_alarmedSet_26 rfl (nI_1 _) (by decide) rfl ?_
      refine x_goto (tgt := 4) C dX2_alarmedSet_29 (by decide) ?_
      refine Wd.locs (lv1 := [(0, .ref (a 1)), (1, .int (alS (d 1) (d 2) (d 3) k)), (2, .int (nI (k + 1)))]) [1, 2, 0] rfl ?_
      have w_3 : alS (d 1) (d 2) (d 3) k = alS (d 1) (d 2) (d 3) (k + 1) := (by rw [alS_s, if_neg c_17])
      exact Wd.cast (w1 := [((a 1), .inr (2, [.ref (a 2), .ref (a 3), .ref (a 4), .ref (a 5), .int (d 4 0)])), ((a 2), .inl (E.2.1, 8, .inl (d 0))), ((a 3), .inl (E.2.1, 8, .inl (d 1))), ((a 4), .inl (E.2.1, 8, .inl (d 2))), ((a 5), .inl (E.2.1, 8, .inl (d 3)))]) (lv1 := [(0, .ref (a 1)), (1, .int (alS (d 1) (d 2) (d 3) (k + 1))), (2, .int (nI (k + 1)))]) rfl (by rw [w_3]) rfl (ih trivial)
    · refine x_iload_n C dX2_alarmedSet_20 1 rfl ?_
      refine x_iconst (v := 1) C dX2_alarmedSet_21 (by decide) ?_
      refine x_iload_n C dX2_alarmedSet_22 2 rfl ?_
      refine x_ishl C dX2_alarmedSet_23 ?_
      refine x_ior C dX2_alarmedSet_24 ?_
      refine x_istore_n (lv1 := [(1, .int ((alS (d 1) (d 2) (d 3) k) ||| (1 <<< ((nI k) &&& 31)))), (0, .ref (a 1)), (2, .int (nI k))]) C dX2_alarmedSet_25 (by decide) rfl ?_
      refine x_iinc (j := 2) (v := (nI (k + 1))) (lv1 := [(2, .int (nI (k + 1))), (1, .int ((alS (d 1) (d 2) (d 3) k) ||| (1 <<< ((nI k) &&& 31)))), (0, .ref (a 1))]) C dX2_alarmedSet_26 rfl (nI_1 _) (by decide) rfl ?_
      refine x_goto (tgt := 4) C dX2_alarmedSet_29 (by decide) ?_
      refine Wd.locs (lv1 := [(0, .ref (a 1)), (1, .int ((alS (d 1) (d 2) (d 3) k) ||| (1 <<< ((nI k) &&& 31)))), (2, .int (nI (k + 1)))]) [2, 1, 0] rfl ?_
      have w_4 : ((alS (d 1) (d 2) (d 3) k) ||| (1 <<< ((nI k) &&& 31))) = alS (d 1) (d 2) (d 3) (k + 1) := (by rw [alS_s, if_pos c_17])
      exact Wd.cast (w1 := [((a 1), .inr (2, [.ref (a 2), .ref (a 3), .ref (a 4), .ref (a 5), .int (d 4 0)])), ((a 2), .inl (E.2.1, 8, .inl (d 0))), ((a 3), .inl (E.2.1, 8, .inl (d 1))), ((a 4), .inl (E.2.1, 8, .inl (d 2))), ((a 5), .inl (E.2.1, 8, .inl (d 3)))]) (lv1 := [(0, .ref (a 1)), (1, .int (alS (d 1) (d 2) (d 3) (k + 1))), (2, .int (nI (k + 1)))]) rfl (by rw [w_4]) rfl (ih trivial)
set_option maxHeartbeats 4000000 in
set_option maxRecDepth 100000 in
theorem c_X2_setWithOneAt (l : Launch) (E : gE) (a : Nat → Nat) (d : Nat → Nat → Int32) (q : Int32) (n : Nat) (hn : d 4 0 = nI n) (h8 : n ≤ 8) : CtI l E yX2_setWithOneAt prog_4_method_10_code 4 (some .int) 1 21 0 0 [.ref (a 1), .int q] [((a 1), .inr (2, [.ref (a 2), .ref (a 3), .ref (a 4), .ref (a 5), .int (d 4 0)])), ((a 2), .inl (E.2.1, 8, .inl (d 0))), ((a 3), .inl (E.2.1, 8, .inl (d 1))), ((a 4), .inl (E.2.1, 8, .inl (d 2))), ((a 5), .inl (E.2.1, 8, .inl (d 3)))] (fun r (_ : Unit) => r = onS (d 0) q n) (fun _ => [((a 1), .inr (2, [.ref (a 2), .ref (a 3), .ref (a 4), .ref (a 5), .int (d 4 0)])), ((a 2), .inl (E.2.1, 8, .inl (d 0))), ((a 3), .inl (E.2.1, 8, .inl (d 1))), ((a 4), .inl (E.2.1, 8, .inl (d 2))), ((a 5), .inl (E.2.1, 8, .inl (d 3)))]) := by
  refine CtI.start (by decide) (Nat.le_of_ble_eq_true rfl) ?_
  intro p e s m below meth c A C hr hlocks hnm
  refine Wd.cast (lv1 := [(0, .ref (a 1)), (1, .int q)]) rfl rfl rfl ?_
  refine x_iconst (v := 0) C dX2_setWithOneAt_0 (by decide) ?_
  refine x_istore_n (lv1 := [(2, .int 0), (0, .ref (a 1)), (1, .int q)]) C dX2_setWithOneAt_1 (by decide) rfl ?_
  refine x_iconst (v := 0) C dX2_setWithOneAt_2 (by decide) ?_
  refine x_istore_n (lv1 := [(3, .int 0), (2, .int 0), (0, .ref (a 1)), (1, .int q)]) C dX2_setWithOneAt_3 (by decide) rfl ?_
  refine Wd.locs (lv1 := [(0, .ref (a 1)), (1, .int q), (2, .int 0), (3, .int 0)]) [2, 3, 1, 0] rfl ?_
  refine Wd.cast (w1 := [((a 1), .inr (2, [.ref (a 2), .ref (a 3), .ref (a 4), .ref (a 5), .int (d 4 0)])), ((a 2), .inl (E.2.1, 8, .inl (d 0))), ((a 3), .inl (E.2.1, 8, .inl (d 1))), ((a 4), .inl (E.2.1, 8, .inl (d 2))), ((a 5), .inl (E.2.1, 8, .inl (d 3)))]) (lv1 := [(0, .ref (a 1)), (1, .int q), (2, .int (onS (d 0) q 0)), (3, .int (nI 0))]) rfl rfl rfl ?_
  refine Wd.up (W1 := fun k => [((a 1), .inr (2, [.ref (a 2), .ref (a 3), .ref (a 4), .ref (a 5), .int (d 4 0)])), ((a 2), .inl (E.2.1, 8, .inl (d 0))), ((a 3), .inl (E.2.1, 8, .inl (d 1))), ((a 4), .inl (E.2.1, 8, .inl (d 2))), ((a 5), .inl (E.2.1, 8, .inl (d 3)))]) (LV := fun k => [(0, .ref (a 1)), (1, .int q), (2, .int (onS (d 0) q k)), (3, .int (nI k))]) (fun k => True) 0 n (by omega) (trivial) (fun hI => ?_) (fun k hk0 hk hI ih => ?_)
  · refine Wd.cast (w1 := [((a 1), .inr (2, [.ref (a 2), .ref (a 3), .ref (a 4), .ref (a 5), .int (d 4 0)])), ((a 2), .inl (E.2.1, 8, .inl (d 0))), ((a 3), .inl (E.2.1, 8, .inl (d 1))), ((a 4), .inl (E.2.1, 8, .inl (d 2))), ((a 5), .inl (E.2.1, 8, .inl (d 3)))]) (lv1 := [(0, .ref (a 1)), (1, .int q), (2, .int (onS (d 0) q n)), (3, .int (nI n))]) rfl rfl rfl ?_
    refine x_iload_n C dX2_setWithOneAt_4 3 rfl ?_
    refine x_aload_n C dX2_setWithOneAt_5 0 rfl ?_
    refine x_get (ref := "RomSearchBus$Devices") (v := .int (d 4 0)) C inX2 0 4 rfl rfl (by decide) kw_fl_X2_24 rfl rfl dX2_setWithOneAt_6 ?_
    refine x_icmp_ge (tgt := 33) C dX2_setWithOneAt_9 (by decide) (fun c_9 => ?_) (fun c_9 => absurd (by rw [hn]; exact Int32.le_refl _) c_9)
    refine x_iload_n C dX2_setWithOneAt_33 2 rfl ?_
    exact x_iret C hr hlocks rfl () rfl (gEq.rf _) dX2_setWithOneAt_34
  · refine Wd.cast (w1 := [((a 1), .inr (2, [.ref (a 2), .ref (a 3), .ref (a 4), .ref (a 5), .int (d 4 0)])), ((a 2), .inl (E.2.1, 8, .inl (d 0))), ((a 3), .inl (E.2.1, 8, .inl (d 1))), ((a 4), .inl (E.2.1, 8, .inl (d 2))), ((a 5), .inl (E.2.1, 8, .inl (d 3)))]) (lv1 := [(0, .ref (a 1)), (1, .int q), (2, .int (onS (d 0) q k)), (3, .int (nI k))]) rfl rfl rfl ?_
    refine x_iload_n C dX2_setWithOneAt_4 3 rfl ?_
    refine x_aload_n C dX2_setWithOneAt_5 0 rfl ?_
    refine x_get (ref := "RomSearchBus$Devices") (v := .int (d 4 0)) C inX2 0 4 rfl rfl (by decide) kw_fl_X2_24 rfl rfl dX2_setWithOneAt_6 ?_
    refine x_icmp_ge (tgt := 33) C dX2_setWithOneAt_9 (by decide) (fun c_9 => absurd c_9 (by rw [hn]; exact nI_ge hk (by omega))) (fun c_9 => ?_)
    refine x_iload_n C dX2_setWithOneAt_12 2 rfl ?_
    refine x_aload_n C dX2_setWithOneAt_13 0 rfl ?_
    refine x_get (ref := "RomSearchBus$Devices") (v := .ref (a 2)) C inX2 0 0 rfl rfl (by decide) kw_fl_X2_11 rfl rfl dX2_setWithOneAt_14 ?_
    refine x_iload_n C dX2_setWithOneAt_17 3 rfl ?_
    refine x_ialdN (x := (d 0 k)) C 1 rfl rfl (by omega) (by decide) rfl dX2_setWithOneAt_18 ?_
    refine x_iload_n C dX2_setWithOneAt_19 1 rfl ?_
    refine x_callNI (wc := []) (wr := [((a 1), .inr (2, [.ref (a 2), .ref (a 3), .ref (a 4), .ref (a 5), .int (d 4 0)])), ((a 2), .inl (E.2.1, 8, .inl (d 0))), ((a 3), .inl (E.2.1, 8, .inl (d 1))), ((a 4), .inl (E.2.1, 8, .inl (d 2))), ((a 5), .inl (E.2.1, 8, .inl (d 3)))]) (As := [.int (d 0 k), .int q]) (rest := [.int (onS (d 0) q k)]) C (c_X5_bitAt l E (d 0 k) q ) (gWN (host := RX5) C (by unfold gNest; exact List.mem_of_getElem? (i := 3) rfl) kw_st_X5_bitAt kw_ini_X5 kw_code_X5_bitAt ga_X5_bitAt ⟨Nat.le_of_ble_eq_true rfl, Nat.le_of_ble_eq_true rfl⟩) [] [0, 1, 2, 3, 4] [0, 1, 2, 3, 4] rfl rfl rfl rfl (by decide) (fun _ => [((a 1), .inr (2, [.ref (a 2), .ref (a 3), .ref (a 4), .ref (a 5), .int (d 4 0)])), ((a 2), .inl (E.2.1, 8, .inl (d 0))), ((a 3), .inl (E.2.1, 8, .inl (d 1))), ((a 4), .inl (E.2.1, 8, .inl (d 2))), ((a 5), .inl (E.2.1, 8, .inl (d 3)))]) rfl (fun _ => rfl) rfl (Nat.le_of_ble_eq_true rfl) ⟨Nat.le_of_ble_eq_true rfl, Nat.le_of_ble_eq_true rfl⟩ rfl dX2_setWithOneAt_20 (fun r_1 _ e_2 => ?_)
    subst e_2
    refine x_iload_n C dX2_setWithOneAt_23 3 rfl ?_
    refine x_ishl C dX2_setWithOneAt_24 ?_
    refine x_ior C dX2_setWithOneAt_25 ?_
    refine x_istore_n (lv1 := [(2, .int ((onS (d 0) q k) ||| ((((d 0 k) >>> (q &&& 31)) &&& 1) <<< ((nI k) &&& 31)))), (0, .ref (a 1)), (1, .int q), (3, .int (nI k))]) C dX2_setWithOneAt_26 (by decide) rfl ?_
    refine x_iinc (j := 3) (v := (nI (k + 1))) (lv1 := [(3, .int (nI (k + 1))), (2, .int ((onS (d 0) q k) ||| ((((d 0 k) >>> (q &&& 31)) &&& 1) <<< ((nI k) &&& 31)))), (0, .ref (a 1)), (1, .int q)]) C dX2_setWithOneAt_27 rfl (nI_1 _) (by decide) rfl ?_
    refine x_goto (tgt := 4) C dX2_setWithOneAt_30 (by decide) ?_
    refine Wd.locs (lv1 := [(0, .ref (a 1)), (1, .int q), (2, .int ((onS (d 0) q k) ||| ((((d 0 k) >>> (q &&& 31)) &&& 1) <<< ((nI k) &&& 31)))), (3, .int (nI (k + 1)))]) [2, 3, 1, 0] rfl ?_
    exact Wd.cast (w1 := [((a 1), .inr (2, [.ref (a 2), .ref (a 3), .ref (a 4), .ref (a 5), .int (d 4 0)])), ((a 2), .inl (E.2.1, 8, .inl (d 0))), ((a 3), .inl (E.2.1, 8, .inl (d 1))), ((a 4), .inl (E.2.1, 8, .inl (d 2))), ((a 5), .inl (E.2.1, 8, .inl (d 3)))]) (lv1 := [(0, .ref (a 1)), (1, .int q), (2, .int (onS (d 0) q (k + 1))), (3, .int (nI (k + 1)))]) rfl rfl rfl (ih trivial)
set_option maxHeartbeats 4000000 in
set_option maxRecDepth 100000 in
theorem c_X2_membersOf (l : Launch) (E : gE) (a : Nat → Nat) (d : Nat → Nat → Int32) (q : Int32) (n : Nat) (hn : d 4 0 = nI n) (h8 : n ≤ 8) : CtI l E yX2_membersOf prog_4_method_11_code 4 (some .int) 0 0 0 0 [.ref (a 1), .int q] [((a 1), .inr (2, [.ref (a 2), .ref (a 3), .ref (a 4), .ref (a 5), .int (d 4 0)])), ((a 2), .inl (E.2.1, 8, .inl (d 0))), ((a 3), .inl (E.2.1, 8, .inl (d 1))), ((a 4), .inl (E.2.1, 8, .inl (d 2))), ((a 5), .inl (E.2.1, 8, .inl (d 3)))] (fun r (_ : Unit) => r = memS (d 0) q n) (fun _ => [((a 1), .inr (2, [.ref (a 2), .ref (a 3), .ref (a 4), .ref (a 5), .int (d 4 0)])), ((a 2), .inl (E.2.1, 8, .inl (d 0))), ((a 3), .inl (E.2.1, 8, .inl (d 1))), ((a 4), .inl (E.2.1, 8, .inl (d 2))), ((a 5), .inl (E.2.1, 8, .inl (d 3)))]) := by
  refine CtI.start (by decide) (Nat.le_of_ble_eq_true rfl) ?_
  intro p e s m below meth c A C hr hlocks hnm
  refine Wd.cast (lv1 := [(0, .ref (a 1)), (1, .int q)]) rfl rfl rfl ?_
  refine x_iconst (v := 0) C dX2_membersOf_0 (by decide) ?_
  refine x_istore_n (lv1 := [(2, .int 0), (0, .ref (a 1)), (1, .int q)]) C dX2_membersOf_1 (by decide) rfl ?_
  refine x_iconst (v := 0) C dX2_membersOf_2 (by decide) ?_
  refine x_istore_n (lv1 := [(3, .int 0), (2, .int 0), (0, .ref (a 1)), (1, .int q)]) C dX2_membersOf_3 (by decide) rfl ?_
  refine Wd.locs (lv1 := [(0, .ref (a 1)), (1, .int q), (2, .int 0), (3, .int 0)]) [2, 3, 1, 0] rfl ?_
  refine Wd.cast (w1 := [((a 1), .inr (2, [.ref (a 2), .ref (a 3), .ref (a 4), .ref (a 5), .int (d 4 0)])), ((a 2), .inl (E.2.1, 8, .inl (d 0))), ((a 3), .inl (E.2.1, 8, .inl (d 1))), ((a 4), .inl (E.2.1, 8, .inl (d 2))), ((a 5), .inl (E.2.1, 8, .inl (d 3)))]) (lv1 := [(0, .ref (a 1)), (1, .int q), (2, .int (memS (d 0) q 0)), (3, .int (nI 0))]) rfl rfl rfl ?_
  refine Wd.up (W1 := fun k => [((a 1), .inr (2, [.ref (a 2), .ref (a 3), .ref (a 4), .ref (a 5), .int (d 4 0)])), ((a 2), .inl (E.2.1, 8, .inl (d 0))), ((a 3), .inl (E.2.1, 8, .inl (d 1))), ((a 4), .inl (E.2.1, 8, .inl (d 2))), ((a 5), .inl (E.2.1, 8, .inl (d 3)))]) (LV := fun k => [(0, .ref (a 1)), (1, .int q), (2, .int (memS (d 0) q k)), (3, .int (nI k))]) (fun k => True) 0 n (by omega) (trivial) (fun hI => ?_) (fun k hk0 hk hI ih => ?_)
  · refine Wd.cast (w1 := [((a 1), .inr (2, [.ref (a 2), .ref (a 3), .ref (a 4), .ref (a 5), .int (d 4 0)])), ((a 2), .inl (E.2.1, 8, .inl (d 0))), ((a 3), .inl (E.2.1, 8, .inl (d 1))), ((a 4), .inl (E.2.1, 8, .inl (d 2))), ((a 5), .inl (E.2.1, 8, .inl (d 3)))]) (lv1 := [(0, .ref (a 1)), (1, .int q), (2, .int (memS (d 0) q n)), (3, .int (nI n))]) rfl rfl rfl ?_
    refine x_iload_n C dX2_membersOf_4 3 rfl ?_
    refine x_aload_n C dX2_membersOf_5 0 rfl ?_
    refine x_get (ref := "RomSearchBus$Devices") (v := .int (d 4 0)) C inX2 0 4 rfl rfl (by decide) kw_fl_X2_24 rfl rfl dX2_membersOf_6 ?_
    refine x_icmp_ge (tgt := 34) C dX2_membersOf_9 (by decide) (fun c_9 => ?_) (fun c_9 => absurd (by rw [hn]; exact Int32.le_refl _) c_9)
    refine x_iload_n C dX2_membersOf_34 2 rfl ?_
    exact x_iret C hr hlocks rfl () rfl (gEq.rf _) dX2_membersOf_35
  · refine Wd.cast (w1 := [((a 1), .inr (2, [.ref (a 2), .ref (a 3), .ref (a 4), .ref (a 5), .int (d 4 0)])), ((a 2), .inl (E.2.1, 8, .inl (d 0))), ((a 3), .inl (E.2.1, 8, .inl (d 1))), ((a 4), .inl (E.2.1, 8, .inl (d 2))), ((a 5), .inl (E.2.1, 8, .inl (d 3)))]) (lv1 := [(0, .ref (a 1)), (1, .int q), (2, .int (memS (d 0) q k)), (3, .int (nI k))]) rfl rfl rfl ?_
    refine x_iload_n C dX2_membersOf_4 3 rfl ?_
    refine x_aload_n C dX2_membersOf_5 0 rfl ?_
    refine x_get (ref := "RomSearchBus$Devices") (v := .int (d 4 0)) C inX2 0 4 rfl rfl (by decide) kw_fl_X2_24 rfl rfl dX2_membersOf_6 ?_
    refine x_icmp_ge (tgt := 34) C dX2_membersOf_9 (by decide) (fun c_9 => absurd c_9 (by rw [hn]; exact nI_ge hk (by omega))) (fun c_9 => ?_)
    refine x_aload_n C dX2_membersOf_12 0 rfl ?_
    refine x_get (ref := "RomSearchBus$Devices") (v := .ref (a 2)) C inX2 0 0 rfl rfl (by decide) kw_fl_X2_11 rfl rfl dX2_membersOf_13 ?_
    refine x_iload_n C dX2_membersOf_16 3 rfl ?_
    refine x_ialdN (x := (d 0 k)) C 1 rfl rfl (by omega) (by decide) rfl dX2_membersOf_17 ?_
    refine x_bipush (v := 15) C dX2_membersOf_18 (by decide) ?_
    refine x_iand C dX2_membersOf_20 ?_
    refine x_iload_n C dX2_membersOf_21 1 rfl ?_
    refine x_icmp_ne (tgt := 28) C dX2_membersOf_22 (by decide) (fun c_22 => ?_) (fun c_22 => ?_)
    · refine x_iinc (j := 3) (v := (nI (k + 1))) (lv1 := [(3, .int (nI (k + 1))), (0, .ref (a 1)), (1, .int q), (2, .int (memS (d 0) q k))]) C dX2_membersOf_28 rfl (nI_1 _) (by decide) rfl ?_
      refine x_goto (tgt := 4) C dX2_membersOf_31 (by decide) ?_
      refine Wd.locs (lv1 := [(0, .ref (a 1)), (1, .int q), (2, .int (memS (d 0) q k)), (3, .int (nI (k + 1)))]) [1, 2, 3, 0] rfl ?_
      have w_1 : memS (d 0) q k = memS (d 0) q (k + 1) := (by rw [memS_s, if_neg c_22])
      exact Wd.cast (w1 := [((a 1), .inr (2, [.ref (a 2), .ref (a 3), .ref (a 4), .ref (a 5), .int (d 4 0)])), ((a 2), .inl (E.2.1, 8, .inl (d 0))), ((a 3), .inl (E.2.1, 8, .inl (d 1))), ((a 4), .inl (E.2.1, 8, .inl (d 2))), ((a 5), .inl (E.2.1, 8, .inl (d 3)))]) (lv1 := [(0, .ref (a 1)), (1, .int q), (2, .int (memS (d 0) q (k + 1))), (3, .int (nI (k + 1)))]) rfl (by rw [w_1]) rfl (ih trivial)
    · refine x_iinc (j := 2) (v := ((memS (d 0) q k) + 1)) (lv1 := [(2, .int ((memS (d 0) q k) + 1)), (0, .ref (a 1)), (1, .int q), (3, .int (nI k))]) C dX2_membersOf_25 rfl rfl (by decide) rfl ?_
      refine x_iinc (j := 3) (v := (nI (k + 1))) (lv1 := [(3, .int (nI (k + 1))), (2, .int ((memS (d 0) q k) + 1)), (0, .ref (a 1)), (1, .int q)]) C dX2_membersOf_28 rfl (nI_1 _) (by decide) rfl ?_
      refine x_goto (tgt := 4) C dX2_membersOf_31 (by decide) ?_
      refine Wd.locs (lv1 := [(0, .ref (a 1)), (1, .int q), (2, .int ((memS (d 0) q k) + 1)), (3, .int (nI (k + 1)))]) [2, 3, 1, 0] rfl ?_
      have w_2 : ((memS (d 0) q k) + 1) = memS (d 0) q (k + 1) := (by rw [memS_s, if_pos c_22])
      exact Wd.cast (w1 := [((a 1), .inr (2, [.ref (a 2), .ref (a 3), .ref (a 4), .ref (a 5), .int (d 4 0)])), ((a 2), .inl (E.2.1, 8, .inl (d 0))), ((a 3), .inl (E.2.1, 8, .inl (d 1))), ((a 4), .inl (E.2.1, 8, .inl (d 2))), ((a 5), .inl (E.2.1, 8, .inl (d 3)))]) (lv1 := [(0, .ref (a 1)), (1, .int q), (2, .int (memS (d 0) q (k + 1))), (3, .int (nI (k + 1)))]) rfl (by rw [w_2]) rfl (ih trivial)
set_option maxHeartbeats 4000000 in
set_option maxRecDepth 100000 in
theorem c_X2_hasRom (l : Launch) (E : gE) (a : Nat → Nat) (d : Nat → Nat → Int32) (q : Int32) (n : Nat) (hn : d 4 0 = nI n) (h8 : n ≤ 8) : CtI l E yX2_hasRom prog_4_method_13_code 3 (some .boolean) 0 0 0 0 [.ref (a 1), .int q] [((a 1), .inr (2, [.ref (a 2), .ref (a 3), .ref (a 4), .ref (a 5), .int (d 4 0)])), ((a 2), .inl (E.2.1, 8, .inl (d 0))), ((a 3), .inl (E.2.1, 8, .inl (d 1))), ((a 4), .inl (E.2.1, 8, .inl (d 2))), ((a 5), .inl (E.2.1, 8, .inl (d 3)))] (fun r (_ : Unit) => r = (if hasS (d 0) q n = true then 1 else 0)) (fun _ => [((a 1), .inr (2, [.ref (a 2), .ref (a 3), .ref (a 4), .ref (a 5), .int (d 4 0)])), ((a 2), .inl (E.2.1, 8, .inl (d 0))), ((a 3), .inl (E.2.1, 8, .inl (d 1))), ((a 4), .inl (E.2.1, 8, .inl (d 2))), ((a 5), .inl (E.2.1, 8, .inl (d 3)))]) := by
  refine CtI.start (by decide) (Nat.le_of_ble_eq_true rfl) ?_
  intro p e s m below meth c A C hr hlocks hnm
  refine Wd.cast (lv1 := [(0, .ref (a 1)), (1, .int q)]) rfl rfl rfl ?_
  refine x_iconst (v := 0) C dX2_hasRom_0 (by decide) ?_
  refine x_istore_n (lv1 := [(2, .int 0), (0, .ref (a 1)), (1, .int q)]) C dX2_hasRom_1 (by decide) rfl ?_
  refine Wd.locs (lv1 := [(0, .ref (a 1)), (1, .int q), (2, .int 0)]) [1, 2, 0] rfl ?_
  refine Wd.cast (w1 := [((a 1), .inr (2, [.ref (a 2), .ref (a 3), .ref (a 4), .ref (a 5), .int (d 4 0)])), ((a 2), .inl (E.2.1, 8, .inl (d 0))), ((a 3), .inl (E.2.1, 8, .inl (d 1))), ((a 4), .inl (E.2.1, 8, .inl (d 2))), ((a 5), .inl (E.2.1, 8, .inl (d 3)))]) (lv1 := [(0, .ref (a 1)), (1, .int q), (2, .int (nI 0))]) rfl rfl rfl ?_
  refine Wd.up (W1 := fun k => [((a 1), .inr (2, [.ref (a 2), .ref (a 3), .ref (a 4), .ref (a 5), .int (d 4 0)])), ((a 2), .inl (E.2.1, 8, .inl (d 0))), ((a 3), .inl (E.2.1, 8, .inl (d 1))), ((a 4), .inl (E.2.1, 8, .inl (d 2))), ((a 5), .inl (E.2.1, 8, .inl (d 3)))]) (LV := fun k => [(0, .ref (a 1)), (1, .int q), (2, .int (nI k))]) (fun k => hasS (d 0) q k = false) 0 n (by omega) (rfl) (fun hI => ?_) (fun k hk0 hk hI ih => ?_)
  · refine Wd.cast (w1 := [((a 1), .inr (2, [.ref (a 2), .ref (a 3), .ref (a 4), .ref (a 5), .int (d 4 0)])), ((a 2), .inl (E.2.1, 8, .inl (d 0))), ((a 3), .inl (E.2.1, 8, .inl (d 1))), ((a 4), .inl (E.2.1, 8, .inl (d 2))), ((a 5), .inl (E.2.1, 8, .inl (d 3)))]) (lv1 := [(0, .ref (a 1)), (1, .int q), (2, .int (nI n))]) rfl rfl rfl ?_
    refine x_iload_n C dX2_hasRom_2 2 rfl ?_
    refine x_aload_n C dX2_hasRom_3 0 rfl ?_
    refine x_get (ref := "RomSearchBus$Devices") (v := .int (d 4 0)) C inX2 0 4 rfl rfl (by decide) kw_fl_X2_24 rfl rfl dX2_hasRom_4 ?_
    refine x_icmp_ge (tgt := 28) C dX2_hasRom_7 (by decide) (fun c_7 => ?_) (fun c_7 => absurd (by rw [hn]; exact Int32.le_refl _) c_7)
    refine x_iconst (v := 0) C dX2_hasRom_28 (by decide) ?_
    exact x_iret C hr hlocks rfl () (if_neg (by rw [hI]; decide)).symm (gEq.rf _) dX2_hasRom_29
  · refine Wd.cast (w1 := [((a 1), .inr (2, [.ref (a 2), .ref (a 3), .ref (a 4), .ref (a 5), .int (d 4 0)])), ((a 2), .inl (E.2.1, 8, .inl (d 0))), ((a 3), .inl (E.2.1, 8, .inl (d 1))), ((a 4), .inl (E.2.1, 8, .inl (d 2))), ((a 5), .inl (E.2.1, 8, .inl (d 3)))]) (lv1 := [(0, .ref (a 1)), (1, .int q), (2, .int (nI k))]) rfl rfl rfl ?_
    refine x_iload_n C dX2_hasRom_2 2 rfl ?_
    refine x_aload_n C dX2_hasRom_3 0 rfl ?_
    refine x_get (ref := "RomSearchBus$Devices") (v := .int (d 4 0)) C inX2 0 4 rfl rfl (by decide) kw_fl_X2_24 rfl rfl dX2_hasRom_4 ?_
    refine x_icmp_ge (tgt := 28) C dX2_hasRom_7 (by decide) (fun c_7 => absurd c_7 (by rw [hn]; exact nI_ge hk (by omega))) (fun c_7 => ?_)
    refine x_aload_n C dX2_hasRom_10 0 rfl ?_
    refine x_get (ref := "RomSearchBus$Devices") (v := .ref (a 2)) C inX2 0 0 rfl rfl (by decide) kw_fl_X2_11 rfl rfl dX2_hasRom_11 ?_
    refine x_iload_n C dX2_hasRom_14 2 rfl ?_
    refine x_ialdN (x := (d 0 k)) C 1 rfl rfl (by omega) (by decide) rfl dX2_hasRom_15 ?_
    refine x_iload_n C dX2_hasRom_16 1 rfl ?_
    refine x_icmp_ne (tgt := 22) C dX2_hasRom_17 (by decide) (fun c_17 => ?_) (fun c_17 => ?_)
    · refine x_iinc (j := 2) (v := (nI (k + 1))) (lv1 := [(2, .int (nI (k + 1))), (0, .ref (a 1)), (1, .int q)]) C dX2_hasRom_22 rfl (nI_1 _) (by decide) rfl ?_
      refine x_goto (tgt := 2) C dX2_hasRom_25 (by decide) ?_
      refine Wd.locs (lv1 := [(0, .ref (a 1)), (1, .int q), (2, .int (nI (k + 1)))]) [1, 2, 0] rfl ?_
      exact Wd.cast (w1 := [((a 1), .inr (2, [.ref (a 2), .ref (a 3), .ref (a 4), .ref (a 5), .int (d 4 0)])), ((a 2), .inl (E.2.1, 8, .inl (d 0))), ((a 3), .inl (E.2.1, 8, .inl (d 1))), ((a 4), .inl (E.2.1, 8, .inl (d 2))), ((a 5), .inl (E.2.1, 8, .inl (d 3)))]) (lv1 := [(0, .ref (a 1)), (1, .int q), (2, .int (nI (k + 1)))]) rfl rfl rfl (ih (by rw [hasS_s, if_neg (by simpa using c_17)]; exact hI))
    · refine x_iconst (v := 1) C dX2_hasRom_20 (by decide) ?_
      exact x_iret C hr hlocks rfl () (if_pos (hasS_t (by simpa using c_17) hk)).symm (gEq.rf _) dX2_hasRom_21

