/-! the reference's row g against the class's records: b the search, d the devices, h the history -/
def RB (g : Nat → Int32) (b : Nat → Nat → Int32) : Prop := g 33 = b 0 0 ∧ g 34 = b 0 1 ∧ g 35 = b 0 2 ∧ g 36 = b 0 3 ∧ g 37 = b 0 4 ∧ g 38 = b 0 5 ∧ g 39 = b 0 6
def RD (g : Nat → Int32) (d : Nat → Nat → Int32) : Prop := g 0 = d 4 0 ∧ ∀ k, k < 8 → g (1 + 4 * k + 0) = d 0 k ∧ g (1 + 4 * k + 1) = d 1 k ∧ g (1 + 4 * k + 2) = d 2 k ∧ g (1 + 4 * k + 3) = d 3 k
def RH (g : Nat → Int32) (h : Nat → Nat → Int32) : Prop := g 40 = h 1 0 ∧ ∀ k, k < 6 → g (41 + k) = h 0 k
theorem RD.congr {g g' : Nat → Int32} {d : Nat → Nat → Int32} (r : RD g d) (h : ∀ j, j < 33 → g' j = g j) : RD g' d :=
  ⟨(h 0 (by decide)).trans r.1, fun k hk => ⟨(h _ (by omega)).trans (r.2 k hk).1, (h _ (by omega)).trans (r.2 k hk).2.1, (h _ (by omega)).trans (r.2 k hk).2.2.1, (h _ (by omega)).trans (r.2 k hk).2.2.2⟩⟩
theorem RH.congr {g g' : Nat → Int32} {h0 : Nat → Nat → Int32} (r : RH g h0) (h : ∀ j, 40 ≤ j → g' j = g j) : RH g' h0 :=
  ⟨(h 40 (by decide)).trans r.1, fun k hk => (h _ (by omega)).trans (r.2 k hk)⟩
theorem RB.congr {g g' : Nat → Int32} {b : Nat → Nat → Int32} (r : RB g b) (h : ∀ j, 33 ≤ j → j < 40 → g' j = g j) : RB g' b :=
  ⟨(h 33 (by decide) (by decide)).trans r.1, (h 34 (by decide) (by decide)).trans r.2.1, (h 35 (by decide) (by decide)).trans r.2.2.1, (h 36 (by decide) (by decide)).trans r.2.2.2.1, (h 37 (by decide) (by decide)).trans r.2.2.2.2.1, (h 38 (by decide) (by decide)).trans r.2.2.2.2.2.1, (h 39 (by decide) (by decide)).trans r.2.2.2.2.2.2⟩
theorem RB.reset {g : Nat → Int32} {b : Nat → Nat → Int32} (r : RB g b) : RB (resetG g) (resetB b) := ⟨rfl, rfl, rfl, rfl, r.2.2.2.2.1, r.2.2.2.2.2.1, r.2.2.2.2.2.2⟩
theorem al_eq {g : Nat → Int32} {d : Nat → Nat → Int32} (r : RD g d) : ∀ (n : Nat), n ≤ 8 → maS g n = alS (d 1) (d 2) (d 3) n
  | 0, _ => rfl
  | n + 1, hn => by
    have h := r.2 n (by omega)
    show maS g n ||| ((if alarmB (g (1 + 4 * n + 1)) (g (1 + 4 * n + 2)) (g (1 + 4 * n + 3)) = true then 1 else 0) <<< (nI n &&& 31)) = _
    rw [alS_s, al_eq r n (by omega), h.2.1, h.2.2.1, h.2.2.2]
    by_cases e : alarmB (d 1 n) (d 2 n) (d 3 n) = true
    · rw [if_pos e, if_pos e]
    · rw [if_neg e, if_neg e, sh0 ⟨n, by omega⟩]
      apply bt_ext
      intro j _
      rw [bt_or, bt_0, Bool.or_false]
theorem al_sub (re ru li : Nat → Int32) : ∀ (n : Nat), n ≤ 8 → ∀ j, bt (alS re ru li n) j = true → j < n
  | 0, _, j, h => by
    rw [show alS re ru li 0 = 0 from rfl, bt_0] at h; exact absurd h Bool.false_ne_true
  | n + 1, hn, j, h => by
    rw [alS_s] at h
    by_cases e : alarmB (re n) (ru n) (li n) = true
    · rw [if_pos e, bt_or, bt_sh' (by omega), Bool.or_eq_true] at h
      rcases h with z | z
      · have := al_sub re ru li n (by omega) j z; omega
      · have := of_decide_eq_true z; omega
    · rw [if_neg e] at h
      have := al_sub re ru li n (by omega) j h; omega
theorem if01 {P Q : Prop} [Decidable P] [Decidable Q] (h : P ↔ Q) : (if P then (1 : Int32) else 0) = if Q then 1 else 0 := by
  by_cases e : P
  · rw [if_pos e, if_pos (h.mp e)]
  · rw [if_neg e, if_neg (fun z => e (h.mpr z))]
theorem wa1 {g : Nat → Int32} {d : Nat → Nat → Int32} {act : Int32} {n k : Nat} (r : ∀ j, j < 8 → g (1 + 4 * j + 0) = d 0 j) (hk : k < 16) (hn : n ≤ 8) (hs : ∀ j, bt act j = true → j < n) : waS g act (nI k) 1 n = if (act &&& ((cOnes d n k) ^^^ (-1))) = 0 then 1 else 0 := by
  rw [show (1 : Int32) = (if true = true then 1 else 0) from rfl, wa_iff g act hk true n hn]
  refine if01 (Iff.trans ?_ (and_off (f := d 0) hk hn hs).symm)
  constructor
  · intro h j hj ha; rw [← r j (by omega)]; exact h j hj ha
  · intro h j hj ha; rw [r j (by omega)]; exact h j hj ha
theorem wa0 {g : Nat → Int32} {d : Nat → Nat → Int32} {act : Int32} {n k : Nat} (r : ∀ j, j < 8 → g (1 + 4 * j + 0) = d 0 j) (hk : k < 16) (hn : n ≤ 8) (hs : ∀ j, bt act j = true → j < n) : waS g act (nI k) 0 n = if (act &&& (cOnes d n k)) = 0 then 1 else 0 := by
  rw [show (0 : Int32) = (if false = true then 1 else 0) from rfl, wa_iff g act hk false n hn]
  refine if01 (Iff.trans ?_ (and_on (f := d 0) hk hn hs).symm)
  constructor
  · intro h j hj ha; rw [← r j (by omega)]; exact h j hj ha
  · intro h j hj ha; rw [r j (by omega)]; exact h j hj ha
theorem nz_eq {g : Nat → Int32} {b : Nat → Nat → Int32} (q w : Int32) (h : g 38 = b 0 5) : nzR g q w = f_X0_readSlot_r b w q := by
  unfold nzR f_X0_readSlot_r f_X6_noisy_r
  show (if g 38 = q then 1 - w else w) = _
  rw [h]
  by_cases e : b 0 5 = q
  · rw [if_pos e, if_pos e.symm]
  · rw [if_neg e, if_neg (Ne.symm e)]
theorem nz_38 {g : Nat → Int32} {b : Nat → Nat → Int32} (q w : Int32) (h : g 38 = b 0 5) : nzG g q w 38 = f_X0_readSlot_b b w q 0 5 := by
  unfold nzG f_X0_readSlot_b f_X6_noisy_y0
  show (if g 38 = q then upd g 38 (-1) else g) 38 = _
  rw [h]
  by_cases e : b 0 5 = q
  · rw [if_pos e, if_pos e.symm]; rfl
  · rw [if_neg e, if_neg (Ne.symm e)]; exact h
theorem rs_at (b : Nat → Nat → Int32) (w q : Int32) {i : Nat} (h5 : i ≠ 5) (h6 : i ≠ 6) : f_X0_readSlot_b b w q 0 i = b 0 i := by
  unfold f_X0_readSlot_b
  split
  · show (if i = 5 then _ else if i = 6 then _ else b 0 i) = _; rw [if_neg h5, if_neg h6]
  · show (if i = 6 then _ else b 0 i) = _; rw [if_neg h6]
theorem rs_6 (b : Nat → Nat → Int32) (w q : Int32) : f_X0_readSlot_b b w q 0 6 = b 0 6 + 1 := by
  unfold f_X0_readSlot_b
  split <;> rfl
theorem rd_01 (b : Nat → Nat → Int32) (q : Int32) {P : Prop} [Decidable P] : f_X0_readSlot_r b (if P then 1 else 0) q = 0 ∨ f_X0_readSlot_r b (if P then 1 else 0) q = 1 := by
  unfold f_X0_readSlot_r
  by_cases e : P
  · rw [if_pos e]; split
    · exact Or.inl rfl
    · exact Or.inr rfl
  · rw [if_neg e]; split
    · exact Or.inr rfl
    · exact Or.inl rfl
/-- one position, up to the second read -/
theorem step_reads {g : Nat → Int32} {b d : Nat → Nat → Int32} {act : Int32} {n k : Nat} (rb : RB g b) (rd : RD g d) (hk : k < 16) (hn : n ≤ 8) (hs : ∀ j, bt act j = true → j < n) : mI g n k act = cI d n k b act ∧ mC g n k act = cC d n k b act ∧ RB (mG3 g n k act) (cB2 d n k b act) := by
  have hr0 : ∀ j, j < 8 → g (1 + 4 * j + 0) = d 0 j := fun j hj => (rd.2 j hj).1
  have hr1 : ∀ j, j < 8 → mG1 g n k act (1 + 4 * j + 0) = d 0 j := fun j hj => (mG1_at g n k act (by omega)).trans (hr0 j hj)
  have w1 := wa1 hr0 hk hn hs
  have w0 := wa0 hr1 hk hn hs
  have e1 : mI g n k act = cI d n k b act := by unfold mI cI; rw [w1]; exact nz_eq _ _ rb.2.2.2.2.2.1
  have n1 : mG1 g n k act 38 = cB1 d n k b act 0 5 := by unfold mG1 cB1; rw [w1]; exact nz_38 _ _ rb.2.2.2.2.2.1
  have e2 : mC g n k act = cC d n k b act := by unfold mC cC; rw [w0]; exact nz_eq _ _ n1
  have n2 : mG2 g n k act 38 = cB2 d n k b act 0 5 := by unfold mG2 cB2; rw [w0]; exact nz_38 _ _ n1
  have at_ : ∀ i, i ≠ 5 → i ≠ 6 → cB2 d n k b act 0 i = b 0 i := fun i h5 h6 => (rs_at _ _ _ h5 h6).trans (rs_at _ _ _ h5 h6)
  have s6 : cB2 d n k b act 0 6 = (b 0 6 + 1) + 1 := by
    have h1 : cB2 d n k b act 0 6 = cB1 d n k b act 0 6 + 1 := rs_6 _ _ _
    have h2 : cB1 d n k b act 0 6 = b 0 6 + 1 := rs_6 _ _ _
    rw [h1, h2]
  refine ⟨e1, e2, ?_, ?_, ?_, ?_, ?_, ?_, ?_⟩
  · rw [mG3_at g n k act (by decide) (by decide), at_ 0 (by decide) (by decide)]; exact rb.1
  · rw [mG3_at g n k act (by decide) (by decide), at_ 1 (by decide) (by decide)]; exact rb.2.1
  · rw [mG3_at g n k act (by decide) (by decide), at_ 2 (by decide) (by decide)]; exact rb.2.2.1
  · rw [mG3_at g n k act (by decide) (by decide), at_ 3 (by decide) (by decide)]; exact rb.2.2.2.1
  · rw [mG3_at g n k act (by decide) (by decide), at_ 4 (by decide) (by decide)]; exact rb.2.2.2.2.1
  · exact n2
  · show mG2 g n k act 39 + 2 = _
    rw [s6, mG2_at g n k act (by decide), rb.2.2.2.2.2.2, Int32.add_assoc]; rfl
theorem cI_01 (d : Nat → Nat → Int32) (n k : Nat) (b : Nat → Nat → Int32) (act : Int32) : cI d n k b act = 0 ∨ cI d n k b act = 1 := rd_01 _ _
theorem cC_01 (d : Nat → Nat → Int32) (n k : Nat) (b : Nat → Nat → Int32) (act : Int32) : cC d n k b act = 0 ∨ cC d n k b act = 1 := rd_01 _ _
theorem cDir_01 (d : Nat → Nat → Int32) {n k : Nat} (b : Nat → Nat → Int32) (act : Int32) (hk : k < 16) : cDir d n k b act = 0 ∨ cDir d n k b act = 1 := by
  unfold cDir
  split
  · unfold f_X0_directionAt_r
    split
    · split
      · exact Or.inr rfl
      · exact Or.inl rfl
    · rw [bitI hk]
      split
      · exact Or.inr rfl
      · exact Or.inl rfl
  · exact cI_01 d n k b act
theorem dir_eq {g : Nat → Int32} {b : Nat → Nat → Int32} (rb : RB g b) (q i w : Int32) : dirR g q i w = if i = w then f_X0_directionAt_r b q else i := by
  unfold dirR f_X0_directionAt_r f_X6_direction_r
  show (if i = w then (if (g 34) ≤ q then (if q = (g 34) then 1 else 0) else (((g 33) >>> (q &&& 31)) &&& 1)) else i) = _
  rw [rb.1, rb.2.1]
theorem step_rest {g : Nat → Int32} {b d : Nat → Nat → Int32} {act lz : Int32} {n k : Nat} (rb : RB g b) (rd : RD g d) (hk : k < 16) (hn : n ≤ 8) (hs : ∀ j, bt act j = true → j < n) (hne : ¬ (cI d n k b act = 1 ∧ cC d n k b act = 1)) : RB (mG6 g n k act) (cB4 d n k b act) ∧ mAct g n k act = cAct d n k b act ∧ mLz g n k act lz = cLz d n k b act lz := by
  obtain ⟨e1, e2, r3⟩ := step_reads rb rd hk hn hs
  have eW : mW g n k act = cDir d n k b act := by unfold mW cDir; rw [e1, e2]; exact dir_eq r3 _ _ _
  have hz : mZ g n k act ↔ (cI d n k b act = cC d n k b act ∧ cDir d n k b act = 0) := by
    unfold mZ
    rw [e1, e2, eW]
    constructor
    · intro h; exact ⟨h.1.trans h.2.1.symm, h.2.2⟩
    · intro h
      rcases cI_01 d n k b act with z | z
      · exact ⟨z, h.1.symm.trans z, h.2⟩
      · exact absurd ⟨z, h.1.symm.trans z⟩ hne
  have r5 : mG5 g n k act 33 = cB3 d n k b act 0 0 ∧ mG5 g n k act 34 = cB3 d n k b act 0 1 ∧ mG5 g n k act 35 = cB3 d n k b act 0 2 ∧ mG5 g n k act 36 = cB3 d n k b act 0 3 ∧ mG5 g n k act 37 = cB3 d n k b act 0 4 ∧ mG5 g n k act 38 = cB3 d n k b act 0 5 ∧ mG5 g n k act 39 = cB3 d n k b act 0 6 + 1 := by
    obtain ⟨a0, a1, a2, a3, a4, a5, a6⟩ := r3
    unfold mG5 cB3
    by_cases e : mZ g n k act
    · rw [if_pos e, if_pos (hz.mp e)]
      unfold f_X0_noteFamilyZero_b
      by_cases e3 : 3 < nI k
      · rw [if_pos e3, if_pos e3]; exact ⟨a0, a1, a2, a3, a4, a5, by rw [← a6]; rfl⟩
      · rw [if_neg e3, if_neg e3]; exact ⟨a0, a1, rfl, a3, a4, a5, by show mG4 g n k act 39 = cB2 d n k b act 0 6 + 1; rw [← a6]; rfl⟩
    · rw [if_neg e, if_neg (fun z => e (hz.mpr z))]; exact ⟨a0, a1, a2, a3, a4, a5, by rw [← a6]; rfl⟩
  have r6 : RB (mG6 g n k act) (cB4 d n k b act) := by
    obtain ⟨a0, a1, a2, a3, a4, a5, a6⟩ := r5
    refine ⟨?_, a1, a2, a3, a4, a5, a6⟩
    show ((mG5 g n k act 33) &&& (((1 : Int32) <<< ((nI k) &&& 31)) ^^^ (-1 : Int32))) ||| ((mW g n k act) <<< ((nI k) &&& 31)) = ((cB3 d n k b act 0 0) &&& (((1 : Int32) <<< ((nI k) &&& 31)) ^^^ (-1 : Int32))) ||| ((cDir d n k b act) <<< ((nI k) &&& 31))
    rw [a0, eW]
  refine ⟨r6, ?_, ?_⟩
  · unfold mAct cAct
    rw [eW]
    have hr6 : ∀ j, j < n → mG6 g n k act (1 + 4 * j + 0) = d 0 j := fun j hj => (mG6_at g n k act (by omega) (by omega) (by omega) (by omega)).trans (rd.2 j (by omega)).1
    rcases cDir_01 d (n := n) b act hk with z | z
    · rw [z]; exact act_eq (f := d 0) hk hn hs hr6 false
    · rw [z]; exact act_eq (f := d 0) hk hn hs hr6 true
  · unfold mLz cLz
    by_cases e : mZ g n k act
    · rw [if_pos e, if_pos (hz.mp e)]
    · rw [if_neg e, if_neg (fun z => e (hz.mpr z))]
theorem end_eq {g : Nat → Int32} {b : Nat → Nat → Int32} (rb : RB g b) (lz : Int32) : (mEnd g lz).1 = (cEnd b lz).1 ∧ (mEnd g lz).2.1 = (cEnd b lz).2.1 ∧ RB (mEnd g lz).2.2 (cEnd b lz).2.2 := by
  obtain ⟨a0, a1, a2, a3, a4, a5, a6⟩ := rb
  have rf : RB (mFin g lz) (cFin b lz) := ⟨a0, rfl, a2, rfl, a4, a5, a6⟩
  unfold mEnd cEnd
  by_cases e : crcP ((b 0 0) &&& 4095) = (b 0 0) >>> (12 &&& 31)
  · rw [if_pos e, if_pos (show ((mFin g lz 33) >>> (12 &&& 31)) = crcP ((mFin g lz 33) &&& 4095) by rw [rf.1]; exact e.symm)]
    exact ⟨a0, rfl, rf⟩
  · rw [if_neg e, if_neg (show ¬ ((mFin g lz 33) >>> (12 &&& 31)) = crcP ((mFin g lz 33) &&& 4095) by rw [rf.1]; exact fun z => e z.symm)]
    exact ⟨rfl, rfl, rf.reset⟩
theorem go_eq {d : Nat → Nat → Int32} {n : Nat} (hn : n ≤ 8) : ∀ (f k : Nat) (g : Nat → Int32) (b : Nat → Nat → Int32) (act lz : Int32), k + f = 16 → RB g b → RD g d → (∀ j, bt act j = true → j < n) → (mGo n f k g act lz).1 = (cGo d n f k b act lz).1 ∧ (mGo n f k g act lz).2.1 = (cGo d n f k b act lz).2.1 ∧ RB (mGo n f k g act lz).2.2 (cGo d n f k b act lz).2.2
  | 0, k, g, b, act, lz, _, rb, _, _ => by rw [mGo_0, cGo_0]; exact end_eq rb lz
  | f + 1, k, g, b, act, lz, hkf, rb, rd, hs => by
    have hk : k < 16 := by omega
    obtain ⟨e1, e2, r3⟩ := step_reads rb rd hk hn hs
    rw [mGo_s, cGo_s]
    by_cases e : cI d n k b act = 1 ∧ cC d n k b act = 1
    · rw [if_pos e, if_pos (by rw [e1, e2]; exact e)]; exact ⟨rfl, rfl, r3.reset⟩
    · rw [if_neg e, if_neg (by rw [e1, e2]; exact e)]
      obtain ⟨r6, eA, eL⟩ := step_rest (lz := lz) rb rd hk hn hs e
      rw [eA, eL]
      exact go_eq hn f (k + 1) _ _ _ _ (by omega) r6 (rd.congr (fun j hj => mG6_at g n k act (by omega) (by omega) (by omega) (by omega))) (act_sub hs)
theorem pass_eq {g : Nat → Int32} {b d : Nat → Nat → Int32} {n : Nat} (rb : RB g b) (rd : RD g d) (hf : b 0 3 = 0 ∨ b 0 3 = 1) (hc : d 4 0 = nI n) (hn : n ≤ 8) : (mPass g n).1 = (cPass d n b).1 ∧ (mPass g n).2.1 = (cPass d n b).2.1 ∧ RB (mPass g n).2.2 (cPass d n b).2.2 := by
  unfold mPass cPass
  rcases hf with z | z
  · rw [if_pos z, if_neg (by rw [rb.2.2.2.1, z]; decide), rd.1]
    by_cases e : d 4 0 = 0
    · rw [if_pos e, if_pos e]; exact ⟨rfl, rfl, rb.reset⟩
    · rw [if_neg e, if_neg e]
      have ea : mA0 g n = cAct0 d n b := by unfold mA0 cAct0; rw [rb.2.2.2.2.1, rd.1, al_eq rd n hn]
      rw [ea]
      refine go_eq hn 16 0 g b _ _ rfl rb rd ?_
      unfold cAct0
      split
      · rw [hc]; exact full_sub hn
      · exact al_sub _ _ _ n hn
  · rw [if_pos (show g 36 = 1 by rw [rb.2.2.2.1, z]), if_neg (show ¬ b 0 3 = 0 by rw [z]; decide)]; exact ⟨rfl, rfl, rb.reset⟩
