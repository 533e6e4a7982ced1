theorem nn_iff {x : Int32} (h : bt x 31 = false) : ¬ x < 0 := by
  rw [Int32.lt_iff_toInt_lt]
  have h1 : x.toBitVec.msb = false := by rw [BitVec.msb_eq_getLsbD_last]; exact h
  rw [BitVec.msb_eq_toInt] at h1
  have h2 := of_decide_eq_false h1
  exact h2
theorem bt_16 : ∀ (k : Fin 16) (j : Fin 2), bt ((if j.val = 1 then (1 : Int32) else 0) <<< (nI k.val &&& 31)) 31 = false := by decide +kernel
theorem nn_eP {x : Int32} (h : bt x 31 = false) : ¬ eP x := by
  intro z
  rcases eP_cases z with rfl | rfl | rfl | rfl | rfl | rfl | rfl | rfl <;> exact absurd h (by decide)
/-- what the search keeps: the code is no negative number, the family's place is none or no negative one, the mode is 0 or 1 -/
def BI (b : Nat → Nat → Int32) : Prop := bt (b 0 0) 31 = false ∧ (b 0 2 = -1 ∨ bt (b 0 2) 31 = false) ∧ (b 0 4 = 0 ∨ b 0 4 = 1) ∧ (b 0 3 = 0 ∨ b 0 3 = 1)
theorem BI.reset {b : Nat → Nat → Int32} (h : BI b) : BI (resetB b) := ⟨bt_0 31, Or.inl rfl, h.2.2.1, Or.inl rfl⟩
theorem nI_31 : ∀ (k : Fin 16), bt (nI k.val) 31 = false := by decide +kernel
theorem BI.step {d b : Nat → Nat → Int32} {n k : Nat} (act : Int32) (hk : k < 16) (h : BI b) : BI (cB2 d n k b act) ∧ BI (cB4 d n k b act) := by
  have at_ : ∀ i, i ≠ 5 → i ≠ 6 → cB2 d n k b act 0 i = b 0 i := fun i h5 h6 => (rs_at _ _ _ h5 h6).trans (rs_at _ _ _ h5 h6)
  have h2 : BI (cB2 d n k b act) := ⟨by rw [at_ 0 (by decide) (by decide)]; exact h.1, by rw [at_ 2 (by decide) (by decide)]; exact h.2.1, by rw [at_ 4 (by decide) (by decide)]; exact h.2.2.1, by rw [at_ 3 (by decide) (by decide)]; exact h.2.2.2⟩
  have h3 : BI (cB3 d n k b act) := by
    unfold cB3
    split
    · unfold f_X0_noteFamilyZero_b
      split
      · exact h2
      · exact ⟨h2.1, Or.inr (nI_31 ⟨k, hk⟩), h2.2.2.1, h2.2.2.2⟩
    · exact h2
  refine ⟨h2, ?_, h3.2.1, h3.2.2.1, h3.2.2.2⟩
  show bt (((cB3 d n k b act 0 0) &&& (((1 : Int32) <<< ((nI k) &&& 31)) ^^^ (-1 : Int32))) ||| ((cDir d n k b act) <<< ((nI k) &&& 31))) 31 = false
  rw [bt_or, bt_and, h3.1, Bool.false_and, Bool.false_or]
  rcases cDir_01 d (n := n) b act hk with z | z
  · rw [z]; exact bt_16 ⟨k, hk⟩ 0
  · rw [z]; exact bt_16 ⟨k, hk⟩ 1
def PR (r : Int32) : Prop := r = -8 ∨ r = -7 ∨ r = -6 ∨ r = -5 ∨ bt r 31 = false
theorem cGo_BI (d : Nat → Nat → Int32) (n : Nat) : ∀ (f k : Nat) (b : Nat → Nat → Int32) (act lz : Int32), k + f = 16 → BI b → BI (cGo d n f k b act lz).2.2 ∧ PR (cGo d n f k b act lz).1
  | 0, k, b, act, lz, _, h => by
    have hf : BI (cFin b lz) := ⟨h.1, h.2.1, h.2.2.1, by
      show (if lz = (-1) then (1 : Int32) else 0) = 0 ∨ (if lz = (-1) then (1 : Int32) else 0) = 1
      split
      · exact Or.inr rfl
      · exact Or.inl rfl⟩
    rw [cGo_0]; unfold cEnd
    split
    · exact ⟨hf, Or.inr (Or.inr (Or.inr (Or.inr h.1)))⟩
    · exact ⟨hf.reset, Or.inr (Or.inl rfl)⟩
  | f + 1, k, b, act, lz, hkf, h => by
    have hs := h.step (d := d) (n := n) (k := k) act (by omega)
    rw [cGo_s]
    split
    · exact ⟨hs.1.reset, Or.inr (Or.inr (Or.inl rfl))⟩
    · exact cGo_BI d n f (k + 1) _ _ _ (by omega) hs.2
theorem cPass_BI (d : Nat → Nat → Int32) (n : Nat) {b : Nat → Nat → Int32} (h : BI b) : BI (cPass d n b).2.2 ∧ PR (cPass d n b).1 := by
  unfold cPass
  split
  · split
    · exact ⟨h.reset, Or.inr (Or.inr (Or.inr (Or.inl rfl)))⟩
    · exact cGo_BI d n 16 0 b _ _ rfl h
  · exact ⟨h.reset, Or.inl rfl⟩
theorem PR.neg {r : Int32} (h : PR r) : r < 0 ↔ eP r := by
  rcases h with rfl | rfl | rfl | rfl | h
  · decide
  · decide
  · decide
  · decide
  · exact ⟨fun z => absurd z (nn_iff h), fun z => absurd z (nn_eP h)⟩
theorem PR.stop {r : Int32} (h : PR r) : ¬ (r = -2 ∨ r = -3 ∨ r = -4) := by
  rcases h with rfl | rfl | rfl | rfl | h
  · decide
  · decide
  · decide
  · decide
  · rintro (rfl | rfl | rfl) <;> exact absurd h (by decide)
theorem mode_BI {b : Nat → Nat → Int32} (q : Int32) (h : BI b) : BI (f_X0_switchMode_b b q) := by
  unfold f_X0_switchMode_b
  split
  · rename_i e
    refine ⟨bt_0 31, Or.inl rfl, ?_, Or.inl rfl⟩
    show q = 0 ∨ q = 1
    obtain ⟨e1, e2⟩ := e
    simp only [Int32.le_iff_toInt_le, ← Int32.toInt_inj] at *
    have a0 : (0 : Int32).toInt = 0 := rfl
    have a1 : (1 : Int32).toInt = 1 := rfl
    omega
  · exact h
theorem skip_BI {b : Nat → Nat → Int32} (h : BI b) : BI (f_X0_leaveFamily_b b) := by
  unfold f_X0_leaveFamily_b
  split
  · exact ⟨h.1, Or.inl rfl, h.2.2.1, Or.inr rfl⟩
  · exact ⟨h.1, Or.inl rfl, h.2.2.1, h.2.2.2⟩
theorem target_BI {b : Nat → Nat → Int32} (q : Int32) (h : BI b) : BI (f_X0_aimAtFamily_b b q) := by
  unfold f_X0_aimAtFamily_b
  split
  · rename_i e
    refine ⟨?_, Or.inl rfl, h.2.2.1, Or.inl rfl⟩
    show bt q 31 = false
    obtain ⟨j, hj, rfl⟩ := nI_of (x := q) (by simpa using e.1)
    have e2 := e.2
    rw [show (15 : Int32) = nI 15 from rfl, nI_leI hj (by decide)] at e2
    exact nI_31 ⟨j, by omega⟩
  · exact h
theorem noise_BI {b : Nat → Nat → Int32} (q : Int32) (h : BI b) : BI (f_X0_disturb_b b q) := by
  unfold f_X0_disturb_b
  split
  · exact ⟨h.1, h.2.1, h.2.2.1, h.2.2.2⟩
  · exact h
/-- the answers of the commands that are no passes -/
theorem stop_iff {r : Int32} (h : r = -2 ∨ r = -3 ∨ r = -4 ∨ r = -1 ∨ bt r 31 = false) : (r = -2 ∨ r = -3 ∨ r = -4) ↔ eP r := by
  rcases h with rfl | rfl | rfl | rfl | h
  · decide
  · decide
  · decide
  · decide
  · constructor
    · rintro (rfl | rfl | rfl) <;> exact absurd h (by decide)
    · exact fun z => absurd z (nn_eP h)
