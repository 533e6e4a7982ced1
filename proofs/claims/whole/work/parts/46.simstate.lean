/-! the whole state of the class against the whole state of the reference -/
def RR (y er b d h : Nat → Nat → Int32) (SB SD SH : Nat → Nat → Nat → Int32) (c : Nat) (x : Nat → Nat → Int32) (L : Nat) : Prop :=
  (R0 (y 0) b d h ∧ BI b ∧ WF b d h) ∧ (RS (y 2) c SB SD SH ∧ (∀ i, i < 5 → BI (SB i) ∧ WF (SB i) (SD i) (SH i)) ∧ c ≤ 5 ∧ y 7 0 = nI c) ∧ (er 0 = y 3 ∧ er 1 0 = y 7 1) ∧ (x 0 = y 4 ∧ x 3 0 = nI L ∧ y 7 2 = nI L ∧ L ≤ 120 ∧ ∀ j, j < L → 0 ≤ y 4 j)
theorem pV_all3 {α β γ : Type} {P : α → β → γ → Prop} {S : Nat → α} {S' : Nat → β} {S'' : Nat → γ} {c : Nat} {x : α} {x' : β} {x'' : γ} (h : ∀ i, i < 5 → P (S i) (S' i) (S'' i)) (hx : P x x' x'') (h5 : c ≤ 5) : ∀ i, i < 5 → P (pV S c x i) (pV S' c x' i) (pV S'' c x'' i) := by
  intro i hi
  unfold pV
  by_cases e : c = 5
  · rw [if_pos e, if_pos e, if_pos e]
    show P (if i = 4 then x else rot S i) (if i = 4 then x' else rot S' i) (if i = 4 then x'' else rot S'' i)
    by_cases z : i = 4
    · rw [if_pos z, if_pos z, if_pos z]; exact hx
    · rw [if_neg z, if_neg z, if_neg z]
      show P (if i = 4 then _ else S (i + 1)) (if i = 4 then _ else S' (i + 1)) (if i = 4 then _ else S'' (i + 1))
      rw [if_neg z, if_neg z, if_neg z]; exact h _ (by omega)
  · rw [if_neg e, if_neg e, if_neg e]
    show P (if i = c then x else S i) (if i = c then x' else S' i) (if i = c then x'' else S'' i)
    by_cases z : i = c
    · rw [if_pos z, if_pos z, if_pos z]; exact hx
    · rw [if_neg z, if_neg z, if_neg z]; exact h i hi
theorem pN_le {c : Nat} (h : c ≤ 5) : pN c ≤ 5 := by unfold pN; split <;> omega
section RRs
variable {y er b d h : Nat → Nat → Int32} {SB SD SH : Nat → Nat → Nat → Int32} {c : Nat} {x : Nat → Nat → Int32} {L : Nat}
/-- an error counted on both sides -/
theorem RR.cnt (r : RR y er b d h SB SD SH c x L) {q : Int32} (hq : eP q) : RR (cntY y q) (setE er q) b d h SB SD SH c x L := by
  obtain ⟨r1, r2, ⟨e1, e2⟩, r4⟩ := r
  have es : setE er q = rs er 0 (eK q) ((er 0 (eK q)) + 1) := if_pos hq
  rw [es]
  refine ⟨r1, r2, ⟨?_, e2⟩, r4⟩
  show upd (er 0) (eK q) (er 0 (eK q) + 1) = upd (y 3) (eK q) (y 3 (eK q) + 1)
  rw [e1]
/-- the state before saved on both sides, the new one laid -/
theorem RR.sav (r : RR y er b d h SB SD SH c x L) {g' : Nat → Int32} {b' d' h' : Nat → Nat → Int32} (r' : R0 g' b' d' h') (bi : BI b') (w : WF b' d' h') : RR (savY (va_up (va_up y 1 (y 0)) 0 g') c) er b' d' h' (pV SB c b) (pV SD c d) (pV SH c h) (pN c) x L := by
  obtain ⟨⟨a1, a2, a3⟩, ⟨s1, s2, s3, s4⟩, r3, r4⟩ := r
  exact ⟨⟨r', bi, w⟩, ⟨s1.push s3 a1, pV_all3 (P := fun p q s => BI p ∧ WF p q s) s2 ⟨a2, a3⟩ s3, pN_le s3, rfl⟩, r3, r4⟩
theorem RR.lay (r : RR y er b d h SB SD SH c x L) {g' : Nat → Int32} {b' d' h' : Nat → Nat → Int32} (r' : R0 g' b' d' h') (bi : BI b') (w : WF b' d' h') : RR (va_up (va_up y 1 (y 0)) 0 g') er b' d' h' SB SD SH c x L := ⟨⟨r', bi, w⟩, r.2.1, r.2.2.1, r.2.2.2⟩
theorem RR.fin (r : RR y er b d h SB SD SH c x L) {g' : Nat → Int32} {b' d' h' : Nat → Nat → Int32} {M S : Int32} (e : M = S) (r' : R0 g' b' d' h') (bi : BI b') (w : WF b' d' h') : RR (finY (va_up (va_up y 1 (y 0)) 0 g') c M) (setE er S) b' d' h' (sV SB c S b) (sV SD c S d) (sV SH c S h) (sN c S) x L := by
  subst e
  unfold finY sV sN
  by_cases q : eP M
  · simp only [if_pos q]; exact (r.lay r' bi w).cnt q
  · simp only [if_neg q]
    rw [show setE er M = er from if_neg q]
    exact r.sav r' bi w
theorem RR.n (r : RR y er b d h SB SD SH c x L) : d 4 0 = nI (nOf d) ∧ nOf d ≤ 8 := r.1.2.2.n
theorem RR.m (r : RR y er b d h SB SD SH c x L) : h 1 0 = nI (hOf h) ∧ hOf h ≤ 6 := r.1.2.2.m
theorem RR.g0 (r : RR y er b d h SB SD SH c x L) : y 0 0 = nI (nOf d) := r.1.1.2.1.1.trans r.n.1
theorem RR.g40 (r : RR y er b d h SB SD SH c x L) : y 0 40 = nI (hOf h) := r.1.1.2.2.1.trans r.m.1
theorem RR.gW (r : RR y er b d h SB SD SH c x L) : gW (y 0) := ⟨⟨_, r.g0, r.n.2⟩, ⟨_, r.g40, r.m.2⟩⟩
theorem RR.add (r : RR y er b d h SB SD SH c x L) (p q : Int32) : mAddR (y 0) p q (nOf d) = f_X2_attach_r d p q (nOf d) ∧ RR (finY (va_up (va_up y 1 (y 0)) 0 (mAddG (y 0) p q (nOf d))) c (mAddR (y 0) p q (nOf d))) (setE er (f_X2_attach_r d p q (nOf d))) b (f_X2_attach_d d p q (nOf d)) h (sV SB c (f_X2_attach_r d p q (nOf d)) b) (sV SD c (f_X2_attach_r d p q (nOf d)) d) (sV SH c (f_X2_attach_r d p q (nOf d)) h) (sN c (f_X2_attach_r d p q (nOf d))) x L := by
  have z := add_eq p q r.1.1.2.1 r.n.1 r.n.2
  exact ⟨z.1, r.fin z.1 (r.1.1.dev z.2.1 z.2.2) r.1.2.1 ⟨at_cnt _ _ r.n.1 r.n.2, r.1.2.2.2⟩⟩
theorem RR.rem (r : RR y er b d h SB SD SH c x L) (q : Int32) : mRemR (y 0) q (nOf d) = f_X2_detach_r d q (nOf d) ∧ RR (finY (va_up (va_up y 1 (y 0)) 0 (mRemG (y 0) q (nOf d))) c (mRemR (y 0) q (nOf d))) (setE er (f_X2_detach_r d q (nOf d))) b (f_X2_detach_d d q (nOf d)) h (sV SB c (f_X2_detach_r d q (nOf d)) b) (sV SD c (f_X2_detach_r d q (nOf d)) d) (sV SH c (f_X2_detach_r d q (nOf d)) h) (sN c (f_X2_detach_r d q (nOf d))) x L := by
  have z := rem_eq q r.1.1.2.1 r.n.1 r.n.2
  exact ⟨z.1, r.fin z.1 (r.1.1.dev z.2.1 z.2.2) r.1.2.1 ⟨de_cnt _ r.n.1 r.n.2, r.1.2.2.2⟩⟩
theorem RR.rdg (r : RR y er b d h SB SD SH c x L) (p q : Int32) : mRdR (y 0) p q (nOf d) = f_X2_storeReading_r d p q (nOf d) ∧ RR (finY (va_up (va_up y 1 (y 0)) 0 (mRdG (y 0) p q (nOf d))) c (mRdR (y 0) p q (nOf d))) (setE er (f_X2_storeReading_r d p q (nOf d))) b (f_X2_storeReading_d d p q (nOf d)) h (sV SB c (f_X2_storeReading_r d p q (nOf d)) b) (sV SD c (f_X2_storeReading_r d p q (nOf d)) d) (sV SH c (f_X2_storeReading_r d p q (nOf d)) h) (sN c (f_X2_storeReading_r d p q (nOf d))) x L := by
  have z := reading_eq p q r.1.1.2.1 r.n.1 r.n.2
  exact ⟨z.1, r.fin z.1 (r.1.1.dev z.2.1 z.2.2) r.1.2.1 ⟨⟨_, (sr_cnt _ _ _ _).trans r.n.1, r.n.2⟩, r.1.2.2.2⟩⟩
theorem RR.alm (r : RR y er b d h SB SD SH c x L) (p q s : Int32) : mAlR (y 0) p q s (nOf d) = f_X2_storeAlarm_r d p q s (nOf d) ∧ RR (finY (va_up (va_up y 1 (y 0)) 0 (mAlG (y 0) p q s (nOf d))) c (mAlR (y 0) p q s (nOf d))) (setE er (f_X2_storeAlarm_r d p q s (nOf d))) b (f_X2_storeAlarm_d d p q s (nOf d)) h (sV SB c (f_X2_storeAlarm_r d p q s (nOf d)) b) (sV SD c (f_X2_storeAlarm_r d p q s (nOf d)) d) (sV SH c (f_X2_storeAlarm_r d p q s (nOf d)) h) (sN c (f_X2_storeAlarm_r d p q s (nOf d))) x L := by
  have z := alarm_eq p q s r.1.1.2.1 r.n.1 r.n.2
  exact ⟨z.1, r.fin z.1 (r.1.1.dev z.2.1 z.2.2) r.1.2.1 ⟨⟨_, (sa_cnt _ _ _ _ _).trans r.n.1, r.n.2⟩, r.1.2.2.2⟩⟩
/-- a change of the search alone -/
theorem RR.bus (r : RR y er b d h SB SD SH c x L) {g' : Nat → Int32} {b' : Nat → Nat → Int32} {M S : Int32} (e : M = S) (r' : R0 g' b' d h) (bi : BI b') : RR (finY (va_up (va_up y 1 (y 0)) 0 g') c M) (setE er S) b' d h (sV SB c S b) (sV SD c S d) (sV SH c S h) (sN c S) x L := r.fin e r' bi ⟨r.1.2.2.1, r.1.2.2.2.1, bi.2.2.2⟩
theorem RR.next (r : RR y er b d h SB SD SH c x L) : (mPass (y 0) (nOf d)).1 = (cPass d (nOf d) b).1 ∧ RR (nxY0 (mPass (y 0) (nOf d)) (mHis (mPass (y 0) (nOf d)) (hOf h)) y c) (setE er (cPass d (nOf d) b).1) (cPass d (nOf d) b).2.2 d (cHis h (hOf h) (cPass d (nOf d) b)) (pV SB c b) (pV SD c d) (pV SH c h) (pN c) x L := by
  have z := passH_eq r.1.1 r.1.2.1.2.2.2 r.n.1 r.n.2 r.m.1 r.m.2
  have bi := (cPass_BI d (nOf d) r.1.2.1).1
  have s := r.sav z.2 bi ⟨⟨_, r.n.1, r.n.2⟩, his_cnt _ r.m.1 r.m.2, bi.2.2.2⟩
  refine ⟨z.1, ?_⟩
  unfold nxY0
  rw [z.1]
  by_cases q : eP (cPass d (nOf d) b).1
  · rw [if_pos q]; exact s.cnt q
  · rw [if_neg q, show setE er (cPass d (nOf d) b).1 = er from if_neg q]; exact s
theorem RR.undo (r : RR y er b d h SB SD SH c x L) : RR (mUndo y c) (uE c er) (uV c b SB) (uV c d SD) (uV c h SH) SB SD SH (c - 1) x L := by
  unfold mUndo uE uV
  by_cases e : c = 0
  · simp only [if_pos e]
    subst e
    exact r.cnt (by decide)
  · simp only [if_neg e]
    obtain ⟨r1, ⟨s1, s2, s3, s4⟩, r3, r4⟩ := r
    refine ⟨⟨s1 (c - 1) (by omega), s2 (c - 1) (by omega)⟩, ⟨fun i hi => s1 i (by omega), s2, by omega, rfl⟩, r3, r4⟩
end RRs
