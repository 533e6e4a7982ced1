def OKr (r : Int32) : Prop := r = -2 ∨ r = -3 ∨ r = -4 ∨ r = -1 ∨ bt r 31 = false
theorem OKr.m2 : OKr (-2) := Or.inl rfl
theorem OKr.nn {r : Int32} (h : bt r 31 = false) : OKr r := Or.inr (Or.inr (Or.inr (Or.inr h)))
theorem OKr.b01 {P : Prop} [Decidable P] : OKr (if P then 1 else 0) := by
  split
  · exact OKr.nn (by decide)
  · exact OKr.nn (by decide)
theorem at_OK {d : Nat → Nat → Int32} {n : Nat} (fam ser : Int32) (hc : d 4 0 = nI n) (h8 : n ≤ 8) : OKr (f_X2_attach_r d fam ser n) := by
  unfold f_X2_attach_r
  split
  · split
    · split
      · exact Or.inr (Or.inl rfl)
      · split
        · refine OKr.nn ?_
          rw [hc, nI_1, nI_m1 (by omega), Nat.add_sub_cancel]; exact nI_31 ⟨n, by omega⟩
        · exact Or.inr (Or.inr (Or.inl rfl))
    · exact OKr.m2
  · exact OKr.m2
theorem de_OK {d : Nat → Nat → Int32} {n : Nat} (q : Int32) (hc : d 4 0 = nI n) (h8 : n ≤ 8) : OKr (f_X2_detach_r d q n) := by
  unfold f_X2_detach_r
  split
  · rename_i e
    have z := (i32_in2 ((in_iff hc h8).mpr e) hc h8).1
    refine OKr.nn ?_
    rw [hc, nI_m1 (by omega)]; exact nI_31 ⟨n - 1, by omega⟩
  · exact OKr.m2
theorem sr_OK (d : Nat → Nat → Int32) (q x : Int32) (n : Nat) : OKr (f_X2_storeReading_r d q x n) := by
  unfold f_X2_storeReading_r
  split
  · split
    · exact OKr.b01
    · exact OKr.m2
  · exact OKr.m2
theorem sa_OK (d : Nat → Nat → Int32) (q ru x : Int32) (n : Nat) : OKr (f_X2_storeAlarm_r d q ru x n) := by
  unfold f_X2_storeAlarm_r
  split
  · split
    · split
      · exact OKr.b01
      · exact OKr.m2
    · exact OKr.m2
  · exact OKr.m2
theorem sm_OK {b : Nat → Nat → Int32} (q : Int32) (h : BI b) : OKr (f_X0_switchMode_r b q) := by
  unfold f_X0_switchMode_r
  split
  · rcases h.2.2.1 with z | z
    · rw [z]; exact OKr.nn (by decide)
    · rw [z]; exact OKr.nn (by decide)
  · exact OKr.m2
theorem lf_OK {b : Nat → Nat → Int32} (h : BI b) : OKr (f_X0_leaveFamily_r b) := by
  unfold f_X0_leaveFamily_r
  rw [ite_self]
  rcases h.2.1 with z | z
  · exact Or.inr (Or.inr (Or.inr (Or.inl z)))
  · exact OKr.nn z
/-- the two sides of a command: stopped alike with the same answer, and the states alike behind it -/
def RunE (S M : Int32) (g : Nat → Int32) (b d h : Nat → Nat → Int32) : Prop := ((S = -2 ∨ S = -3 ∨ S = -4) ↔ eP M) ∧ ((S = -2 ∨ S = -3 ∨ S = -4) → M = S) ∧ R0 g b d h ∧ BI b
theorem RunE.mk' {S M : Int32} {g : Nat → Int32} {b d h : Nat → Nat → Int32} (e : M = S) (ok : OKr S) (r : R0 g b d h) (bi : BI b) : RunE S M g b d h := ⟨by rw [e]; exact stop_iff ok, fun _ => e, r, bi⟩
theorem gN_eq {g : Nat → Int32} {b d h : Nat → Nat → Int32} (r : R0 g b d h) : gN g = nOf d := by unfold gN nOf; rw [r.2.1.1]
theorem gH_eq {g : Nat → Int32} {b d h : Nat → Nat → Int32} (r : R0 g b d h) : gH g = hOf h := by unfold gH hOf; rw [r.2.2.1]
theorem nd_val {v : Int32} {m : Nat} (hm : m < 2 ^ 31) (h : f_X1_numbersNeeded_r v = nI m) : ndN v = m := by unfold ndN; rw [h, nI_clamp hm]
/-- a command of the class, by its letter and numbers -/
def cdR (b d : Nat → Nat → Int32) (n : Nat) (lt a c e : Int32) : Int32 := if lt = 100 then f_X2_attach_r d a c n else if lt = 107 then f_X0_leaveFamily_r b else if lt = 108 then f_X2_storeAlarm_r d a c e n else if lt = 109 then f_X0_switchMode_r b a else if lt = 110 then (cPass d n b).1 else if lt = 114 then b 0 0 else if lt = 118 then f_X2_storeReading_r d a c n else if lt = 120 then f_X2_detach_r d a n else -2
def cdB (b d : Nat → Nat → Int32) (n : Nat) (lt a : Int32) : Nat → Nat → Int32 := if lt = 100 then b else if lt = 107 then f_X0_leaveFamily_b b else if lt = 108 then b else if lt = 109 then f_X0_switchMode_b b a else if lt = 110 then (cPass d n b).2.2 else if lt = 114 then resetB b else if lt = 118 then b else if lt = 120 then b else b
def cdD (d : Nat → Nat → Int32) (n : Nat) (lt a c e : Int32) : Nat → Nat → Int32 := if lt = 100 then f_X2_attach_d d a c n else if lt = 107 then d else if lt = 108 then f_X2_storeAlarm_d d a c e n else if lt = 109 then d else if lt = 110 then d else if lt = 114 then d else if lt = 118 then f_X2_storeReading_d d a c n else if lt = 120 then f_X2_detach_d d a n else d
def cdH (b d h : Nat → Nat → Int32) (n nh : Nat) (lt : Int32) : Nat → Nat → Int32 := if lt = 100 then h else if lt = 107 then h else if lt = 108 then h else if lt = 109 then h else if lt = 110 then cHis h nh (cPass d n b) else if lt = 114 then h else if lt = 118 then h else if lt = 120 then h else h
theorem cd_eq (er x b d h : Nat → Nat → Int32) (n nh K : Nat) (q : Int32) : f_X5_runCommand_r er x b d h n nh q K = cdR b d n (x 1 K) (x 2 (3 * K + 0)) (x 2 (3 * K + 1)) (x 2 (3 * K + 2)) ∧ f_X5_runCommand_b er x b d h n nh q K = cdB b d n (x 1 K) (x 2 (3 * K + 0)) ∧ f_X5_runCommand_d er x b d h n nh q K = cdD d n (x 1 K) (x 2 (3 * K + 0)) (x 2 (3 * K + 1)) (x 2 (3 * K + 2)) ∧ f_X5_runCommand_h er x b d h n nh q K = cdH b d h n nh (x 1 K) := ⟨rfl, rfl, rfl, rfl⟩
theorem run_100 {b d h : Nat → Nat → Int32} {g : Nat → Int32} {n nh : Nat} (a c e : Int32) (r : R0 g b d h) (bi : BI b) (hn : d 4 0 = nI n) (h8 : n ≤ 8) (hm : h 1 0 = nI nh) (h6 : nh ≤ 6) : RunE (cdR b d n 100 a c e) (mdR g n 100 a c e) (mdG g n nh 100 a c e) (cdB b d n 100 a) (cdD d n 100 a c e) (cdH b d h n nh 100) := by
  have e1 : cdR b d n 100 a c e = f_X2_attach_r d a c n := by unfold cdR; rw [if_pos (rfl : (100 : Int32) = 100)]
  have e2 : cdB b d n 100 a = b := by unfold cdB; rw [if_pos (rfl : (100 : Int32) = 100)]
  have e3 : cdD d n 100 a c e = f_X2_attach_d d a c n := by unfold cdD; rw [if_pos (rfl : (100 : Int32) = 100)]
  have e4 : cdH b d h n nh 100 = h := by unfold cdH; rw [if_pos (rfl : (100 : Int32) = 100)]
  have e5 : mdR g n 100 a c e = mAddR g a c n := by unfold mdR; rw [if_pos (rfl : (100 : Int32) = 100)]
  have e6 : mdG g n nh 100 a c e = mAddG g a c n := by unfold mdG; rw [if_pos (rfl : (100 : Int32) = 100)]
  rw [e1, e2, e3, e4, e5, e6]
  have z := add_eq a c r.2.1 hn h8
  exact RunE.mk' z.1 (at_OK a c hn h8) (r.dev z.2.1 z.2.2) bi
theorem run_107 {b d h : Nat → Nat → Int32} {g : Nat → Int32} {n nh : Nat} (a c e : Int32) (r : R0 g b d h) (bi : BI b) (hn : d 4 0 = nI n) (h8 : n ≤ 8) (hm : h 1 0 = nI nh) (h6 : nh ≤ 6) : RunE (cdR b d n 107 a c e) (mdR g n 107 a c e) (mdG g n nh 107 a c e) (cdB b d n 107 a) (cdD d n 107 a c e) (cdH b d h n nh 107) := by
  have e1 : cdR b d n 107 a c e = f_X0_leaveFamily_r b := by unfold cdR; rw [if_neg (show ¬ (107 : Int32) = 100 by decide), if_pos (rfl : (107 : Int32) = 107)]
  have e2 : cdB b d n 107 a = f_X0_leaveFamily_b b := by unfold cdB; rw [if_neg (show ¬ (107 : Int32) = 100 by decide), if_pos (rfl : (107 : Int32) = 107)]
  have e3 : cdD d n 107 a c e = d := by unfold cdD; rw [if_neg (show ¬ (107 : Int32) = 100 by decide), if_pos (rfl : (107 : Int32) = 107)]
  have e4 : cdH b d h n nh 107 = h := by unfold cdH; rw [if_neg (show ¬ (107 : Int32) = 100 by decide), if_pos (rfl : (107 : Int32) = 107)]
  have e5 : mdR g n 107 a c e = g 35 := by unfold mdR; rw [if_neg (show ¬ (107 : Int32) = 100 by decide), if_pos (rfl : (107 : Int32) = 107)]
  have e6 : mdG g n nh 107 a c e = dsG g := by unfold mdG; rw [if_neg (show ¬ (107 : Int32) = 100 by decide), if_pos (rfl : (107 : Int32) = 107)]
  rw [e1, e2, e3, e4, e5, e6]
  exact RunE.mk' (skip_eq r).1 (lf_OK bi) (skip_eq r).2 (skip_BI bi)
theorem run_108 {b d h : Nat → Nat → Int32} {g : Nat → Int32} {n nh : Nat} (a c e : Int32) (r : R0 g b d h) (bi : BI b) (hn : d 4 0 = nI n) (h8 : n ≤ 8) (hm : h 1 0 = nI nh) (h6 : nh ≤ 6) : RunE (cdR b d n 108 a c e) (mdR g n 108 a c e) (mdG g n nh 108 a c e) (cdB b d n 108 a) (cdD d n 108 a c e) (cdH b d h n nh 108) := by
  have e1 : cdR b d n 108 a c e = f_X2_storeAlarm_r d a c e n := by unfold cdR; rw [if_neg (show ¬ (108 : Int32) = 100 by decide), if_neg (show ¬ (108 : Int32) = 107 by decide), if_pos (rfl : (108 : Int32) = 108)]
  have e2 : cdB b d n 108 a = b := by unfold cdB; rw [if_neg (show ¬ (108 : Int32) = 100 by decide), if_neg (show ¬ (108 : Int32) = 107 by decide), if_pos (rfl : (108 : Int32) = 108)]
  have e3 : cdD d n 108 a c e = f_X2_storeAlarm_d d a c e n := by unfold cdD; rw [if_neg (show ¬ (108 : Int32) = 100 by decide), if_neg (show ¬ (108 : Int32) = 107 by decide), if_pos (rfl : (108 : Int32) = 108)]
  have e4 : cdH b d h n nh 108 = h := by unfold cdH; rw [if_neg (show ¬ (108 : Int32) = 100 by decide), if_neg (show ¬ (108 : Int32) = 107 by decide), if_pos (rfl : (108 : Int32) = 108)]
  have e5 : mdR g n 108 a c e = mAlR g a c e n := by unfold mdR; rw [if_neg (show ¬ (108 : Int32) = 100 by decide), if_neg (show ¬ (108 : Int32) = 107 by decide), if_pos (rfl : (108 : Int32) = 108)]
  have e6 : mdG g n nh 108 a c e = mAlG g a c e n := by unfold mdG; rw [if_neg (show ¬ (108 : Int32) = 100 by decide), if_neg (show ¬ (108 : Int32) = 107 by decide), if_pos (rfl : (108 : Int32) = 108)]
  rw [e1, e2, e3, e4, e5, e6]
  have z := alarm_eq a c e r.2.1 hn h8
  exact RunE.mk' z.1 (sa_OK d a c e n) (r.dev z.2.1 z.2.2) bi
theorem run_109 {b d h : Nat → Nat → Int32} {g : Nat → Int32} {n nh : Nat} (a c e : Int32) (r : R0 g b d h) (bi : BI b) (hn : d 4 0 = nI n) (h8 : n ≤ 8) (hm : h 1 0 = nI nh) (h6 : nh ≤ 6) : RunE (cdR b d n 109 a c e) (mdR g n 109 a c e) (mdG g n nh 109 a c e) (cdB b d n 109 a) (cdD d n 109 a c e) (cdH b d h n nh 109) := by
  have e1 : cdR b d n 109 a c e = f_X0_switchMode_r b a := by unfold cdR; rw [if_neg (show ¬ (109 : Int32) = 100 by decide), if_neg (show ¬ (109 : Int32) = 107 by decide), if_neg (show ¬ (109 : Int32) = 108 by decide), if_pos (rfl : (109 : Int32) = 109)]
  have e2 : cdB b d n 109 a = f_X0_switchMode_b b a := by unfold cdB; rw [if_neg (show ¬ (109 : Int32) = 100 by decide), if_neg (show ¬ (109 : Int32) = 107 by decide), if_neg (show ¬ (109 : Int32) = 108 by decide), if_pos (rfl : (109 : Int32) = 109)]
  have e3 : cdD d n 109 a c e = d := by unfold cdD; rw [if_neg (show ¬ (109 : Int32) = 100 by decide), if_neg (show ¬ (109 : Int32) = 107 by decide), if_neg (show ¬ (109 : Int32) = 108 by decide), if_pos (rfl : (109 : Int32) = 109)]
  have e4 : cdH b d h n nh 109 = h := by unfold cdH; rw [if_neg (show ¬ (109 : Int32) = 100 by decide), if_neg (show ¬ (109 : Int32) = 107 by decide), if_neg (show ¬ (109 : Int32) = 108 by decide), if_pos (rfl : (109 : Int32) = 109)]
  have e5 : mdR g n 109 a c e = dmR g a := by unfold mdR; rw [if_neg (show ¬ (109 : Int32) = 100 by decide), if_neg (show ¬ (109 : Int32) = 107 by decide), if_neg (show ¬ (109 : Int32) = 108 by decide), if_pos (rfl : (109 : Int32) = 109)]
  have e6 : mdG g n nh 109 a c e = dmG g a := by unfold mdG; rw [if_neg (show ¬ (109 : Int32) = 100 by decide), if_neg (show ¬ (109 : Int32) = 107 by decide), if_neg (show ¬ (109 : Int32) = 108 by decide), if_pos (rfl : (109 : Int32) = 109)]
  rw [e1, e2, e3, e4, e5, e6]
  exact RunE.mk' (mode_eq a r).1 (sm_OK a bi) (mode_eq a r).2 (mode_BI a bi)
theorem run_110 {b d h : Nat → Nat → Int32} {g : Nat → Int32} {n nh : Nat} (a c e : Int32) (r : R0 g b d h) (bi : BI b) (hn : d 4 0 = nI n) (h8 : n ≤ 8) (hm : h 1 0 = nI nh) (h6 : nh ≤ 6) : RunE (cdR b d n 110 a c e) (mdR g n 110 a c e) (mdG g n nh 110 a c e) (cdB b d n 110 a) (cdD d n 110 a c e) (cdH b d h n nh 110) := by
  have e1 : cdR b d n 110 a c e = (cPass d n b).1 := by unfold cdR; rw [if_neg (show ¬ (110 : Int32) = 100 by decide), if_neg (show ¬ (110 : Int32) = 107 by decide), if_neg (show ¬ (110 : Int32) = 108 by decide), if_neg (show ¬ (110 : Int32) = 109 by decide), if_pos (rfl : (110 : Int32) = 110)]
  have e2 : cdB b d n 110 a = (cPass d n b).2.2 := by unfold cdB; rw [if_neg (show ¬ (110 : Int32) = 100 by decide), if_neg (show ¬ (110 : Int32) = 107 by decide), if_neg (show ¬ (110 : Int32) = 108 by decide), if_neg (show ¬ (110 : Int32) = 109 by decide), if_pos (rfl : (110 : Int32) = 110)]
  have e3 : cdD d n 110 a c e = d := by unfold cdD; rw [if_neg (show ¬ (110 : Int32) = 100 by decide), if_neg (show ¬ (110 : Int32) = 107 by decide), if_neg (show ¬ (110 : Int32) = 108 by decide), if_neg (show ¬ (110 : Int32) = 109 by decide), if_pos (rfl : (110 : Int32) = 110)]
  have e4 : cdH b d h n nh 110 = cHis h nh (cPass d n b) := by unfold cdH; rw [if_neg (show ¬ (110 : Int32) = 100 by decide), if_neg (show ¬ (110 : Int32) = 107 by decide), if_neg (show ¬ (110 : Int32) = 108 by decide), if_neg (show ¬ (110 : Int32) = 109 by decide), if_pos (rfl : (110 : Int32) = 110)]
  have e5 : mdR g n 110 a c e = 0 := by unfold mdR; rw [if_neg (show ¬ (110 : Int32) = 100 by decide), if_neg (show ¬ (110 : Int32) = 107 by decide), if_neg (show ¬ (110 : Int32) = 108 by decide), if_neg (show ¬ (110 : Int32) = 109 by decide), if_neg (show ¬ (110 : Int32) = 114 by decide), if_neg (show ¬ (110 : Int32) = 118 by decide), if_neg (show ¬ (110 : Int32) = 120 by decide)]
  have e6 : mdG g n nh 110 a c e = mHis (mPass g n) nh := by unfold mdG; rw [if_neg (show ¬ (110 : Int32) = 100 by decide), if_neg (show ¬ (110 : Int32) = 107 by decide), if_neg (show ¬ (110 : Int32) = 108 by decide), if_neg (show ¬ (110 : Int32) = 109 by decide), if_neg (show ¬ (110 : Int32) = 114 by decide), if_neg (show ¬ (110 : Int32) = 118 by decide), if_neg (show ¬ (110 : Int32) = 120 by decide)]
  rw [e1, e2, e3, e4, e5, e6]
  have z := passH_eq r bi.2.2.2 hn h8 hm h6
  have y := cPass_BI d n bi
  exact ⟨⟨fun q => absurd q y.2.stop, fun q => absurd q (by decide)⟩, fun q => absurd q y.2.stop, z.2, y.1⟩
theorem run_114 {b d h : Nat → Nat → Int32} {g : Nat → Int32} {n nh : Nat} (a c e : Int32) (r : R0 g b d h) (bi : BI b) (hn : d 4 0 = nI n) (h8 : n ≤ 8) (hm : h 1 0 = nI nh) (h6 : nh ≤ 6) : RunE (cdR b d n 114 a c e) (mdR g n 114 a c e) (mdG g n nh 114 a c e) (cdB b d n 114 a) (cdD d n 114 a c e) (cdH b d h n nh 114) := by
  have e1 : cdR b d n 114 a c e = b 0 0 := by unfold cdR; rw [if_neg (show ¬ (114 : Int32) = 100 by decide), if_neg (show ¬ (114 : Int32) = 107 by decide), if_neg (show ¬ (114 : Int32) = 108 by decide), if_neg (show ¬ (114 : Int32) = 109 by decide), if_neg (show ¬ (114 : Int32) = 110 by decide), if_pos (rfl : (114 : Int32) = 114)]
  have e2 : cdB b d n 114 a = resetB b := by unfold cdB; rw [if_neg (show ¬ (114 : Int32) = 100 by decide), if_neg (show ¬ (114 : Int32) = 107 by decide), if_neg (show ¬ (114 : Int32) = 108 by decide), if_neg (show ¬ (114 : Int32) = 109 by decide), if_neg (show ¬ (114 : Int32) = 110 by decide), if_pos (rfl : (114 : Int32) = 114)]
  have e3 : cdD d n 114 a c e = d := by unfold cdD; rw [if_neg (show ¬ (114 : Int32) = 100 by decide), if_neg (show ¬ (114 : Int32) = 107 by decide), if_neg (show ¬ (114 : Int32) = 108 by decide), if_neg (show ¬ (114 : Int32) = 109 by decide), if_neg (show ¬ (114 : Int32) = 110 by decide), if_pos (rfl : (114 : Int32) = 114)]
  have e4 : cdH b d h n nh 114 = h := by unfold cdH; rw [if_neg (show ¬ (114 : Int32) = 100 by decide), if_neg (show ¬ (114 : Int32) = 107 by decide), if_neg (show ¬ (114 : Int32) = 108 by decide), if_neg (show ¬ (114 : Int32) = 109 by decide), if_neg (show ¬ (114 : Int32) = 110 by decide), if_pos (rfl : (114 : Int32) = 114)]
  have e5 : mdR g n 114 a c e = g 33 := by unfold mdR; rw [if_neg (show ¬ (114 : Int32) = 100 by decide), if_neg (show ¬ (114 : Int32) = 107 by decide), if_neg (show ¬ (114 : Int32) = 108 by decide), if_neg (show ¬ (114 : Int32) = 109 by decide), if_pos (rfl : (114 : Int32) = 114)]
  have e6 : mdG g n nh 114 a c e = resetG g := by unfold mdG; rw [if_neg (show ¬ (114 : Int32) = 100 by decide), if_neg (show ¬ (114 : Int32) = 107 by decide), if_neg (show ¬ (114 : Int32) = 108 by decide), if_neg (show ¬ (114 : Int32) = 109 by decide), if_pos (rfl : (114 : Int32) = 114)]
  rw [e1, e2, e3, e4, e5, e6]
  exact RunE.mk' r.1.1 (OKr.nn bi.1) r.reset bi.reset
theorem run_118 {b d h : Nat → Nat → Int32} {g : Nat → Int32} {n nh : Nat} (a c e : Int32) (r : R0 g b d h) (bi : BI b) (hn : d 4 0 = nI n) (h8 : n ≤ 8) (hm : h 1 0 = nI nh) (h6 : nh ≤ 6) : RunE (cdR b d n 118 a c e) (mdR g n 118 a c e) (mdG g n nh 118 a c e) (cdB b d n 118 a) (cdD d n 118 a c e) (cdH b d h n nh 118) := by
  have e1 : cdR b d n 118 a c e = f_X2_storeReading_r d a c n := by unfold cdR; rw [if_neg (show ¬ (118 : Int32) = 100 by decide), if_neg (show ¬ (118 : Int32) = 107 by decide), if_neg (show ¬ (118 : Int32) = 108 by decide), if_neg (show ¬ (118 : Int32) = 109 by decide), if_neg (show ¬ (118 : Int32) = 110 by decide), if_neg (show ¬ (118 : Int32) = 114 by decide), if_pos (rfl : (118 : Int32) = 118)]
  have e2 : cdB b d n 118 a = b := by unfold cdB; rw [if_neg (show ¬ (118 : Int32) = 100 by decide), if_neg (show ¬ (118 : Int32) = 107 by decide), if_neg (show ¬ (118 : Int32) = 108 by decide), if_neg (show ¬ (118 : Int32) = 109 by decide), if_neg (show ¬ (118 : Int32) = 110 by decide), if_neg (show ¬ (118 : Int32) = 114 by decide), if_pos (rfl : (118 : Int32) = 118)]
  have e3 : cdD d n 118 a c e = f_X2_storeReading_d d a c n := by unfold cdD; rw [if_neg (show ¬ (118 : Int32) = 100 by decide), if_neg (show ¬ (118 : Int32) = 107 by decide), if_neg (show ¬ (118 : Int32) = 108 by decide), if_neg (show ¬ (118 : Int32) = 109 by decide), if_neg (show ¬ (118 : Int32) = 110 by decide), if_neg (show ¬ (118 : Int32) = 114 by decide), if_pos (rfl : (118 : Int32) = 118)]
  have e4 : cdH b d h n nh 118 = h := by unfold cdH; rw [if_neg (show ¬ (118 : Int32) = 100 by decide), if_neg (show ¬ (118 : Int32) = 107 by decide), if_neg (show ¬ (118 : Int32) = 108 by decide), if_neg (show ¬ (118 : Int32) = 109 by decide), if_neg (show ¬ (118 : Int32) = 110 by decide), if_neg (show ¬ (118 : Int32) = 114 by decide), if_pos (rfl : (118 : Int32) = 118)]
  have e5 : mdR g n 118 a c e = mRdR g a c n := by unfold mdR; rw [if_neg (show ¬ (118 : Int32) = 100 by decide), if_neg (show ¬ (118 : Int32) = 107 by decide), if_neg (show ¬ (118 : Int32) = 108 by decide), if_neg (show ¬ (118 : Int32) = 109 by decide), if_neg (show ¬ (118 : Int32) = 114 by decide), if_pos (rfl : (118 : Int32) = 118)]
  have e6 : mdG g n nh 118 a c e = mRdG g a c n := by unfold mdG; rw [if_neg (show ¬ (118 : Int32) = 100 by decide), if_neg (show ¬ (118 : Int32) = 107 by decide), if_neg (show ¬ (118 : Int32) = 108 by decide), if_neg (show ¬ (118 : Int32) = 109 by decide), if_neg (show ¬ (118 : Int32) = 114 by decide), if_pos (rfl : (118 : Int32) = 118)]
  rw [e1, e2, e3, e4, e5, e6]
  have z := reading_eq a c r.2.1 hn h8
  exact RunE.mk' z.1 (sr_OK d a c n) (r.dev z.2.1 z.2.2) bi
theorem run_120 {b d h : Nat → Nat → Int32} {g : Nat → Int32} {n nh : Nat} (a c e : Int32) (r : R0 g b d h) (bi : BI b) (hn : d 4 0 = nI n) (h8 : n ≤ 8) (hm : h 1 0 = nI nh) (h6 : nh ≤ 6) : RunE (cdR b d n 120 a c e) (mdR g n 120 a c e) (mdG g n nh 120 a c e) (cdB b d n 120 a) (cdD d n 120 a c e) (cdH b d h n nh 120) := by
  have e1 : cdR b d n 120 a c e = f_X2_detach_r d a n := by unfold cdR; rw [if_neg (show ¬ (120 : Int32) = 100 by decide), if_neg (show ¬ (120 : Int32) = 107 by decide), if_neg (show ¬ (120 : Int32) = 108 by decide), if_neg (show ¬ (120 : Int32) = 109 by decide), if_neg (show ¬ (120 : Int32) = 110 by decide), if_neg (show ¬ (120 : Int32) = 114 by decide), if_neg (show ¬ (120 : Int32) = 118 by decide), if_pos (rfl : (120 : Int32) = 120)]
  have e2 : cdB b d n 120 a = b := by unfold cdB; rw [if_neg (show ¬ (120 : Int32) = 100 by decide), if_neg (show ¬ (120 : Int32) = 107 by decide), if_neg (show ¬ (120 : Int32) = 108 by decide), if_neg (show ¬ (120 : Int32) = 109 by decide), if_neg (show ¬ (120 : Int32) = 110 by decide), if_neg (show ¬ (120 : Int32) = 114 by decide), if_neg (show ¬ (120 : Int32) = 118 by decide), if_pos (rfl : (120 : Int32) = 120)]
  have e3 : cdD d n 120 a c e = f_X2_detach_d d a n := by unfold cdD; rw [if_neg (show ¬ (120 : Int32) = 100 by decide), if_neg (show ¬ (120 : Int32) = 107 by decide), if_neg (show ¬ (120 : Int32) = 108 by decide), if_neg (show ¬ (120 : Int32) = 109 by decide), if_neg (show ¬ (120 : Int32) = 110 by decide), if_neg (show ¬ (120 : Int32) = 114 by decide), if_neg (show ¬ (120 : Int32) = 118 by decide), if_pos (rfl : (120 : Int32) = 120)]
  have e4 : cdH b d h n nh 120 = h := by unfold cdH; rw [if_neg (show ¬ (120 : Int32) = 100 by decide), if_neg (show ¬ (120 : Int32) = 107 by decide), if_neg (show ¬ (120 : Int32) = 108 by decide), if_neg (show ¬ (120 : Int32) = 109 by decide), if_neg (show ¬ (120 : Int32) = 110 by decide), if_neg (show ¬ (120 : Int32) = 114 by decide), if_neg (show ¬ (120 : Int32) = 118 by decide), if_pos (rfl : (120 : Int32) = 120)]
  have e5 : mdR g n 120 a c e = mRemR g a n := by unfold mdR; rw [if_neg (show ¬ (120 : Int32) = 100 by decide), if_neg (show ¬ (120 : Int32) = 107 by decide), if_neg (show ¬ (120 : Int32) = 108 by decide), if_neg (show ¬ (120 : Int32) = 109 by decide), if_neg (show ¬ (120 : Int32) = 114 by decide), if_neg (show ¬ (120 : Int32) = 118 by decide), if_pos (rfl : (120 : Int32) = 120)]
  have e6 : mdG g n nh 120 a c e = mRemG g a n := by unfold mdG; rw [if_neg (show ¬ (120 : Int32) = 100 by decide), if_neg (show ¬ (120 : Int32) = 107 by decide), if_neg (show ¬ (120 : Int32) = 108 by decide), if_neg (show ¬ (120 : Int32) = 109 by decide), if_neg (show ¬ (120 : Int32) = 114 by decide), if_neg (show ¬ (120 : Int32) = 118 by decide), if_pos (rfl : (120 : Int32) = 120)]
  rw [e1, e2, e3, e4, e5, e6]
  have z := rem_eq a r.2.1 hn h8
  exact RunE.mk' z.1 (de_OK a hn h8) (r.dev z.2.1 z.2.2) bi
theorem run_100_x {b d h : Nat → Nat → Int32} {g : Nat → Int32} {n nh : Nat} (a c e a1 c1 e1 : Int32) (r : R0 g b d h) (bi : BI b) (hn : d 4 0 = nI n) (h8 : n ≤ 8) (hm : h 1 0 = nI nh) (h6 : nh ≤ 6) : RunE (cdR b d n 100 a c e) (mdR g n 100 a c e1) (mdG g n nh 100 a c e1) (cdB b d n 100 a) (cdD d n 100 a c e) (cdH b d h n nh 100) := by
  have e5 : mdR g n 100 a c e1 = mdR g n 100 a c e := by simp only [mdR, if_true, if_pos (rfl : (100 : Int32) = 100)]
  have e6 : mdG g n nh 100 a c e1 = mdG g n nh 100 a c e := by simp only [mdG, if_true, if_pos (rfl : (100 : Int32) = 100)]
  rw [e5, e6]
  exact run_100 a c e r bi hn h8 hm h6
theorem run_107_x {b d h : Nat → Nat → Int32} {g : Nat → Int32} {n nh : Nat} (a c e a1 c1 e1 : Int32) (r : R0 g b d h) (bi : BI b) (hn : d 4 0 = nI n) (h8 : n ≤ 8) (hm : h 1 0 = nI nh) (h6 : nh ≤ 6) : RunE (cdR b d n 107 a c e) (mdR g n 107 a1 c1 e1) (mdG g n nh 107 a1 c1 e1) (cdB b d n 107 a) (cdD d n 107 a c e) (cdH b d h n nh 107) := by
  have e5 : mdR g n 107 a1 c1 e1 = mdR g n 107 a c e := by simp only [mdR, if_true, if_neg (show ¬ (107 : Int32) = 100 by decide), if_pos (rfl : (107 : Int32) = 107)]
  have e6 : mdG g n nh 107 a1 c1 e1 = mdG g n nh 107 a c e := by simp only [mdG, if_true, if_neg (show ¬ (107 : Int32) = 100 by decide), if_pos (rfl : (107 : Int32) = 107)]
  rw [e5, e6]
  exact run_107 a c e r bi hn h8 hm h6
theorem run_109_x {b d h : Nat → Nat → Int32} {g : Nat → Int32} {n nh : Nat} (a c e a1 c1 e1 : Int32) (r : R0 g b d h) (bi : BI b) (hn : d 4 0 = nI n) (h8 : n ≤ 8) (hm : h 1 0 = nI nh) (h6 : nh ≤ 6) : RunE (cdR b d n 109 a c e) (mdR g n 109 a c1 e1) (mdG g n nh 109 a c1 e1) (cdB b d n 109 a) (cdD d n 109 a c e) (cdH b d h n nh 109) := by
  have e5 : mdR g n 109 a c1 e1 = mdR g n 109 a c e := by simp only [mdR, if_true, if_neg (show ¬ (109 : Int32) = 100 by decide), if_neg (show ¬ (109 : Int32) = 107 by decide), if_neg (show ¬ (109 : Int32) = 108 by decide), if_pos (rfl : (109 : Int32) = 109)]
  have e6 : mdG g n nh 109 a c1 e1 = mdG g n nh 109 a c e := by simp only [mdG, if_true, if_neg (show ¬ (109 : Int32) = 100 by decide), if_neg (show ¬ (109 : Int32) = 107 by decide), if_neg (show ¬ (109 : Int32) = 108 by decide), if_pos (rfl : (109 : Int32) = 109)]
  rw [e5, e6]
  exact run_109 a c e r bi hn h8 hm h6
theorem run_110_x {b d h : Nat → Nat → Int32} {g : Nat → Int32} {n nh : Nat} (a c e a1 c1 e1 : Int32) (r : R0 g b d h) (bi : BI b) (hn : d 4 0 = nI n) (h8 : n ≤ 8) (hm : h 1 0 = nI nh) (h6 : nh ≤ 6) : RunE (cdR b d n 110 a c e) (mdR g n 110 a1 c1 e1) (mdG g n nh 110 a1 c1 e1) (cdB b d n 110 a) (cdD d n 110 a c e) (cdH b d h n nh 110) := by
  have e5 : mdR g n 110 a1 c1 e1 = mdR g n 110 a c e := by simp only [mdR, if_true, if_neg (show ¬ (110 : Int32) = 100 by decide), if_neg (show ¬ (110 : Int32) = 107 by decide), if_neg (show ¬ (110 : Int32) = 108 by decide), if_neg (show ¬ (110 : Int32) = 109 by decide), if_neg (show ¬ (110 : Int32) = 114 by decide), if_neg (show ¬ (110 : Int32) = 118 by decide), if_neg (show ¬ (110 : Int32) = 120 by decide)]
  have e6 : mdG g n nh 110 a1 c1 e1 = mdG g n nh 110 a c e := by simp only [mdG, if_true, if_neg (show ¬ (110 : Int32) = 100 by decide), if_neg (show ¬ (110 : Int32) = 107 by decide), if_neg (show ¬ (110 : Int32) = 108 by decide), if_neg (show ¬ (110 : Int32) = 109 by decide), if_neg (show ¬ (110 : Int32) = 114 by decide), if_neg (show ¬ (110 : Int32) = 118 by decide), if_neg (show ¬ (110 : Int32) = 120 by decide)]
  rw [e5, e6]
  exact run_110 a c e r bi hn h8 hm h6
theorem run_114_x {b d h : Nat → Nat → Int32} {g : Nat → Int32} {n nh : Nat} (a c e a1 c1 e1 : Int32) (r : R0 g b d h) (bi : BI b) (hn : d 4 0 = nI n) (h8 : n ≤ 8) (hm : h 1 0 = nI nh) (h6 : nh ≤ 6) : RunE (cdR b d n 114 a c e) (mdR g n 114 a1 c1 e1) (mdG g n nh 114 a1 c1 e1) (cdB b d n 114 a) (cdD d n 114 a c e) (cdH b d h n nh 114) := by
  have e5 : mdR g n 114 a1 c1 e1 = mdR g n 114 a c e := by simp only [mdR, if_true, if_neg (show ¬ (114 : Int32) = 100 by decide), if_neg (show ¬ (114 : Int32) = 107 by decide), if_neg (show ¬ (114 : Int32) = 108 by decide), if_neg (show ¬ (114 : Int32) = 109 by decide), if_pos (rfl : (114 : Int32) = 114)]
  have e6 : mdG g n nh 114 a1 c1 e1 = mdG g n nh 114 a c e := by simp only [mdG, if_true, if_neg (show ¬ (114 : Int32) = 100 by decide), if_neg (show ¬ (114 : Int32) = 107 by decide), if_neg (show ¬ (114 : Int32) = 108 by decide), if_neg (show ¬ (114 : Int32) = 109 by decide), if_pos (rfl : (114 : Int32) = 114)]
  rw [e5, e6]
  exact run_114 a c e r bi hn h8 hm h6
theorem run_118_x {b d h : Nat → Nat → Int32} {g : Nat → Int32} {n nh : Nat} (a c e a1 c1 e1 : Int32) (r : R0 g b d h) (bi : BI b) (hn : d 4 0 = nI n) (h8 : n ≤ 8) (hm : h 1 0 = nI nh) (h6 : nh ≤ 6) : RunE (cdR b d n 118 a c e) (mdR g n 118 a c e1) (mdG g n nh 118 a c e1) (cdB b d n 118 a) (cdD d n 118 a c e) (cdH b d h n nh 118) := by
  have e5 : mdR g n 118 a c e1 = mdR g n 118 a c e := by simp only [mdR, if_true, if_neg (show ¬ (118 : Int32) = 100 by decide), if_neg (show ¬ (118 : Int32) = 107 by decide), if_neg (show ¬ (118 : Int32) = 108 by decide), if_neg (show ¬ (118 : Int32) = 109 by decide), if_neg (show ¬ (118 : Int32) = 114 by decide), if_pos (rfl : (118 : Int32) = 118)]
  have e6 : mdG g n nh 118 a c e1 = mdG g n nh 118 a c e := by simp only [mdG, if_true, if_neg (show ¬ (118 : Int32) = 100 by decide), if_neg (show ¬ (118 : Int32) = 107 by decide), if_neg (show ¬ (118 : Int32) = 108 by decide), if_neg (show ¬ (118 : Int32) = 109 by decide), if_neg (show ¬ (118 : Int32) = 114 by decide), if_pos (rfl : (118 : Int32) = 118)]
  rw [e5, e6]
  exact run_118 a c e r bi hn h8 hm h6
theorem run_120_x {b d h : Nat → Nat → Int32} {g : Nat → Int32} {n nh : Nat} (a c e a1 c1 e1 : Int32) (r : R0 g b d h) (bi : BI b) (hn : d 4 0 = nI n) (h8 : n ≤ 8) (hm : h 1 0 = nI nh) (h6 : nh ≤ 6) : RunE (cdR b d n 120 a c e) (mdR g n 120 a c1 e1) (mdG g n nh 120 a c1 e1) (cdB b d n 120 a) (cdD d n 120 a c e) (cdH b d h n nh 120) := by
  have e5 : mdR g n 120 a c1 e1 = mdR g n 120 a c e := by simp only [mdR, if_true, if_neg (show ¬ (120 : Int32) = 100 by decide), if_neg (show ¬ (120 : Int32) = 107 by decide), if_neg (show ¬ (120 : Int32) = 108 by decide), if_neg (show ¬ (120 : Int32) = 109 by decide), if_neg (show ¬ (120 : Int32) = 114 by decide), if_neg (show ¬ (120 : Int32) = 118 by decide), if_pos (rfl : (120 : Int32) = 120)]
  have e6 : mdG g n nh 120 a c1 e1 = mdG g n nh 120 a c e := by simp only [mdG, if_true, if_neg (show ¬ (120 : Int32) = 100 by decide), if_neg (show ¬ (120 : Int32) = 107 by decide), if_neg (show ¬ (120 : Int32) = 108 by decide), if_neg (show ¬ (120 : Int32) = 109 by decide), if_neg (show ¬ (120 : Int32) = 114 by decide), if_neg (show ¬ (120 : Int32) = 118 by decide), if_pos (rfl : (120 : Int32) = 120)]
  rw [e5, e6]
  exact run_120 a c e r bi hn h8 hm h6
theorem run_eq {er x b d h : Nat → Nat → Int32} {g : Nat → Int32} {K : Nat} {lt a c e : Int32} (r : R0 g b d h) (bi : BI b) (w : WF b d h) (hl : x 1 K = lt) (hne : ¬ f_X1_numbersNeeded_r lt = -1) (h0 : 0 < ndN lt → x 2 (3 * K + 0) = a) (h1 : 1 < ndN lt → x 2 (3 * K + 1) = c) (h2 : 2 < ndN lt → x 2 (3 * K + 2) = e) :
    RunE (f_X5_runCommand_r er x b d h (nOf d) (hOf h) (nI K) K) (mdR g (gN g) lt a c e) (mdG g (gN g) (gH g) lt a c e) (f_X5_runCommand_b er x b d h (nOf d) (hOf h) (nI K) K) (f_X5_runCommand_d er x b d h (nOf d) (hOf h) (nI K) K) (f_X5_runCommand_h er x b d h (nOf d) (hOf h) (nI K) K) := by
  have hn := w.n
  have hm := w.m
  obtain ⟨c1, c2, c3, c4⟩ := cd_eq er x b d h (nOf d) (hOf h) K (nI K)
  rw [gN_eq r, gH_eq r, c1, c2, c3, c4, hl]
  generalize x 2 (3 * K + 0) = a0 at *
  generalize x 2 (3 * K + 1) = b0 at *
  generalize x 2 (3 * K + 2) = e0 at *
  rcases need_let hne with rfl | rfl | rfl | rfl | rfl | rfl | rfl | rfl
  · have q0 := h0 (by rw [nd_val (m := 2) (by decide) rfl]; decide)
    subst q0
    have q1 := h1 (by rw [nd_val (m := 2) (by decide) rfl]; decide)
    subst q1
    exact run_100_x _ _ _ 0 0 _ r bi hn.1 hn.2 hm.1 hm.2
  · exact run_107_x _ _ _ _ _ _ r bi hn.1 hn.2 hm.1 hm.2
  · have q0 := h0 (by rw [nd_val (m := 3) (by decide) rfl]; decide)
    subst q0
    have q1 := h1 (by rw [nd_val (m := 3) (by decide) rfl]; decide)
    subst q1
    have q2 := h2 (by rw [nd_val (m := 3) (by decide) rfl]; decide)
    subst q2
    exact run_108 _ _ _ r bi hn.1 hn.2 hm.1 hm.2
  · have q0 := h0 (by rw [nd_val (m := 1) (by decide) rfl]; decide)
    subst q0
    exact run_109_x _ _ _ 0 _ _ r bi hn.1 hn.2 hm.1 hm.2
  · exact run_110_x _ _ _ _ _ _ r bi hn.1 hn.2 hm.1 hm.2
  · exact run_114_x _ _ _ _ _ _ r bi hn.1 hn.2 hm.1 hm.2
  · have q0 := h0 (by rw [nd_val (m := 2) (by decide) rfl]; decide)
    subst q0
    have q1 := h1 (by rw [nd_val (m := 2) (by decide) rfl]; decide)
    subst q1
    exact run_118_x _ _ _ 0 0 _ r bi hn.1 hn.2 hm.1 hm.2
  · have q0 := h0 (by rw [nd_val (m := 1) (by decide) rfl]; decide)
    subst q0
    exact run_120_x _ _ _ 0 _ _ r bi hn.1 hn.2 hm.1 hm.2
/-- the parsed commands stand alike -/
def CmdE (f : Nat → Int32) (L : Nat) (u v : Nat → Nat → Int32) (i : Nat) : Prop := prI f L u i ∧ prM f L v i ∧ ¬ f_X1_numbersNeeded_r (atP f L (cpP f L i)) = -1
theorem ex_eq {er u v : Nat → Nat → Int32} {f : Nat → Int32} {L N : Nat} (hall : ∀ i, i < N → CmdE f L u v i) : ∀ (j i : Nat) (b d h : Nat → Nat → Int32) (g : Nat → Int32), i + j = N → R0 g b d h → BI b → WF b d h →
    (mxG (v 5) (v 6) j i g).1 = (exG er u j i b d h).1 ∧ (mxG (v 5) (v 6) j i g).2.1 = (exG er u j i b d h).2.1 ∧ (mxG (v 5) (v 6) j i g).2.2.1 = (exG er u j i b d h).2.2.1 ∧ R0 (mxG (v 5) (v 6) j i g).2.2.2 (exG er u j i b d h).2.2.2.1 (exG er u j i b d h).2.2.2.2.1 (exG er u j i b d h).2.2.2.2.2 ∧ BI (exG er u j i b d h).2.2.2.1 ∧ WF (exG er u j i b d h).2.2.2.1 (exG er u j i b d h).2.2.2.2.1 (exG er u j i b d h).2.2.2.2.2
  | 0, i, b, d, h, g, _, r, bi, w => ⟨rfl, rfl, rfl, r, bi, w⟩
  | j + 1, i, b, d, h, g, hij, r, bi, w => by
    obtain ⟨⟨a1, a2⟩, ⟨m1, m2⟩, hne⟩ := hall i (by omega)
    have key := run_eq (er := er) (x := u) (K := i) (lt := v 5 i) (a := v 6 (3 * i)) (c := v 6 (3 * i + 1)) (e := v 6 (3 * i + 2)) r bi w (a1.trans m1.symm) (by rw [m1]; exact hne)
      (fun q => by rw [m1] at q; exact (a2 0 q).trans (m2 0 q).symm) (fun q => by rw [m1] at q; exact (a2 1 q).trans (m2 1 q).symm) (fun q => by rw [m1] at q; exact (a2 2 q).trans (m2 2 q).symm)
    obtain ⟨k1, k2, k3, k4⟩ := key
    rw [mxG_s, exG_s]
    by_cases e : f_X5_runCommand_r er u b d h (nOf d) (hOf h) (nI i) i = (-2) ∨ f_X5_runCommand_r er u b d h (nOf d) (hOf h) (nI i) i = (-3) ∨ f_X5_runCommand_r er u b d h (nOf d) (hOf h) (nI i) i = (-4)
    · rw [if_pos (k1.mp e), if_pos e]
      exact ⟨rfl, rfl, k2 e, r, bi, w⟩
    · rw [if_neg (fun z => e (k1.mpr z)), if_neg e]
      exact ex_eq hall j (i + 1) _ _ _ _ (by omega) k3 k4 (w.run i)
theorem ca_eq {d : Nat → Nat → Int32} {n : Nat} (hc : d 4 0 = nI n) (h8 : n ≤ 8) : ∀ (j : Nat) (b h : Nat → Nat → Int32) (g : Nat → Int32), R0 g b d h → BI b → (∃ m, h 1 0 = nI m ∧ m ≤ 6) → maG j g = caG d n j b
  | 0, _, _, _, _, _, _ => rfl
  | j + 1, b, h, g, r, bi, ⟨m, hm, h6⟩ => by
    have w : WF b d h := ⟨⟨n, hc, h8⟩, ⟨m, hm, h6⟩, bi.2.2.2⟩
    have en : nOf d = n := by unfold nOf; rw [hc, nI_clamp (by omega)]
    have z := passH_eq r bi.2.2.2 hc h8 w.m.1 w.m.2
    have y := cPass_BI d n bi
    rw [maG_s, caG_s, gN_eq r, gH_eq r, en, z.1]
    by_cases e : (cPass d n b).1 < 0
    · rw [if_pos e, if_pos (y.2.neg.mp e)]
    · rw [if_neg e, if_neg (fun q => e (y.2.neg.mpr q)), ca_eq hc h8 j _ _ _ z.2 y.1 (his_cnt _ w.m.1 w.m.2)]
theorem memS_congr {f f' : Nat → Int32} (q : Int32) : ∀ (n : Nat), (∀ j, j < n → f j = f' j) → memS f q n = memS f' q n
  | 0, _ => rfl
  | n + 1, h => by rw [memS_s, memS_s, h n (Nat.lt_succ_self _), memS_congr q n (fun j hj => h j (by omega))]
