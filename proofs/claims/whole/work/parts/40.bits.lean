def bt (x : Int32) (j : Nat) : Bool := x.toBitVec.getLsbD j
theorem bt_and (x y : Int32) (j : Nat) : bt (x &&& y) j = (bt x j && bt y j) := by unfold bt; rw [Int32.toBitVec_and, BitVec.getLsbD_and]
theorem bt_or (x y : Int32) (j : Nat) : bt (x ||| y) j = (bt x j || bt y j) := by unfold bt; rw [Int32.toBitVec_or, BitVec.getLsbD_or]
theorem bt_xor (x y : Int32) (j : Nat) : bt (x ^^^ y) j = (bt x j ^^ bt y j) := by unfold bt; rw [Int32.toBitVec_xor, BitVec.getLsbD_xor]
theorem bt_m1 (j : Nat) : bt (-1) j = decide (j < 32) := by unfold bt; rw [show (-1 : Int32).toBitVec = BitVec.allOnes 32 by decide, BitVec.getLsbD_allOnes]
theorem bt_0 (j : Nat) : bt 0 j = false := by unfold bt; rw [show (0 : Int32).toBitVec = 0#32 from rfl, BitVec.getLsbD_zero]
theorem bt_hi {x : Int32} {j : Nat} (h : 32 ≤ j) : bt x j = false := BitVec.getLsbD_of_ge _ _ h
theorem bt_ext {x y : Int32} (h : ∀ j, j < 32 → bt x j = bt y j) : x = y := by
  apply Int32.toBitVec_inj.mp
  exact BitVec.eq_of_getLsbD_eq h
theorem bt_sh : ∀ (k : Fin 16) (j : Fin 32), bt (1 <<< (nI k.val &&& 31)) j.val = decide (j.val = k.val) := by decide +kernel
theorem bt_sh' {k : Nat} (hk : k < 16) (j : Nat) : bt (1 <<< (nI k &&& 31)) j = decide (j = k) := by
  rcases Nat.lt_or_ge j 32 with h | h
  · exact bt_sh ⟨k, hk⟩ ⟨j, h⟩
  · rw [bt_hi h]; exact (decide_eq_false (by omega)).symm
theorem bt_1 (j : Nat) : bt 1 j = decide (j = 0) := by
  have := bt_sh' (k := 0) (by decide) j
  exact this
theorem sh0 : ∀ (k : Fin 16), (0 : Int32) <<< (nI k.val &&& 31) = 0 := by decide +kernel
theorem shAmt : ∀ (k : Fin 16), ((nI k.val &&& 31).toBitVec.smod 32).toNat = k.val := by decide +kernel
theorem and1 (x : Int32) : x &&& 1 = if bt x 0 = true then 1 else 0 := by
  apply bt_ext
  intro j _
  rw [bt_and, bt_1]
  by_cases e : j = 0
  · subst e
    cases z : bt x 0 with
    | true => rfl
    | false => rfl
  · rw [decide_eq_false e, Bool.and_false]
    split
    · rw [bt_1, decide_eq_false e]
    · rw [bt_0]
theorem bt_shr {x : Int32} {k : Nat} (hk : k < 16) : bt (x >>> (nI k &&& 31)) 0 = bt x k := by
  unfold bt
  rw [Int32.toBitVec_shiftRight, BitVec.sshiftRight_eq', shAmt ⟨k, hk⟩, BitVec.getLsbD_sshiftRight]
  simp
  omega
theorem bitI {x : Int32} {k : Nat} (hk : k < 16) : (x >>> (nI k &&& 31)) &&& 1 = if bt x k = true then 1 else 0 := by
  rw [and1, bt_shr hk]
theorem bt_on (f : Nat → Int32) {k : Nat} (hk : k < 16) : ∀ (n : Nat), n ≤ 8 → ∀ j, bt (onS f (nI k) n) j = (decide (j < n) && bt (f j) k)
  | 0, _, j => by
    show bt 0 j = _
    rw [bt_0, decide_eq_false (Nat.not_lt_zero _)]; rfl
  | n + 1, hn, j => by
    show bt (onS f (nI k) n ||| (((f n >>> (nI k &&& 31)) &&& 1) <<< (nI n &&& 31))) j = _
    rw [bt_or, bt_on f hk n (by omega) j, bitI hk]
    by_cases e : j = n
    · subst e
      rw [decide_eq_false (Nat.lt_irrefl _), decide_eq_true (Nat.lt_succ_self _), Bool.false_and, Bool.false_or, Bool.true_and]
      cases z : bt (f j) k with
      | true => exact (bt_sh' (by omega) j).trans (decide_eq_true rfl)
      | false => show bt ((0 : Int32) <<< (nI j &&& 31)) j = false; rw [sh0 ⟨j, by omega⟩, bt_0]
    · have h0 : bt ((if bt (f n) k = true then (1 : Int32) else 0) <<< (nI n &&& 31)) j = false := by
        split
        · rw [bt_sh' (by omega), decide_eq_false e]
        · rw [sh0 ⟨n, by omega⟩, bt_0]
      rw [h0, Bool.or_false, show decide (j < n + 1) = decide (j < n) from decide_eq_decide.mpr (by omega)]
theorem ite_bit {b : Bool} {t : Bool} : ((if b = true then (1 : Int32) else 0) = (if t = true then (1 : Int32) else 0)) ↔ b = t := by cases b <;> cases t <;> decide
theorem wa_iff (g : Nat → Int32) (act : Int32) {k : Nat} (hk : k < 16) (t : Bool) : ∀ (n : Nat), n ≤ 8 → waS g act (nI k) (if t = true then 1 else 0) n = if (∀ j, j < n → bt act j = true → bt (g (1 + 4 * j + 0)) k = t) then 1 else 0
  | 0, _ => (if_pos (fun j hj => absurd hj (Nat.not_lt_zero _))).symm
  | n + 1, hn => by
    show (if ((act >>> (nI n &&& 31)) &&& 1) = 1 ∧ ¬ ((g (1 + 4 * n + 0) >>> (nI k &&& 31)) &&& 1) = (if t = true then 1 else 0) then 0 else waS g act (nI k) (if t = true then 1 else 0) n) = _
    have h1 : (((act >>> (nI n &&& 31)) &&& 1) = 1) ↔ bt act n = true := by rw [bitI (show n < 16 by omega)]; exact ite_bit (t := true)
    have h2 : (((g (1 + 4 * n + 0) >>> (nI k &&& 31)) &&& 1) = (if t = true then 1 else 0)) ↔ bt (g (1 + 4 * n + 0)) k = t := by rw [bitI hk]; exact ite_bit
    by_cases e : bt act n = true ∧ ¬ bt (g (1 + 4 * n + 0)) k = t
    · rw [if_pos ⟨h1.mpr e.1, fun z => e.2 (h2.mp z)⟩, if_neg (fun z => e.2 (z n (Nat.lt_succ_self _) e.1))]
    · rw [if_neg (fun z => e ⟨h1.mp z.1, fun z2 => z.2 (h2.mpr z2)⟩), wa_iff g act hk t n (by omega)]
      by_cases e2 : ∀ j, j < n → bt act j = true → bt (g (1 + 4 * j + 0)) k = t
      · rw [if_pos e2, if_pos]
        intro j hj ha
        rcases Nat.lt_succ_iff_lt_or_eq.mp hj with z | z
        · exact e2 j z ha
        · subst z; exact Classical.not_not.mp (fun z2 => e ⟨ha, z2⟩)
      · rw [if_neg e2, if_neg]
        exact fun z => e2 (fun j hj => z j (by omega))
/-- the class's test against the reference's: act within n places -/
theorem and_on {f : Nat → Int32} {act : Int32} {n k : Nat} (hk : k < 16) (hn : n ≤ 8) (hs : ∀ j, bt act j = true → j < n) : ((act &&& onS f (nI k) n) = 0) ↔ ∀ j, j < n → bt act j = true → bt (f j) k = false := by
  constructor
  · intro h j hj ha
    have := congrArg (fun x => bt x j) h
    simp only [bt_and, bt_0, bt_on f hk n hn, ha, decide_eq_true hj, Bool.true_and] at this
    exact this
  · intro h
    apply bt_ext
    intro j _
    rw [bt_and, bt_0, bt_on f hk n hn]
    cases z : bt act j with
    | false => rfl
    | true => rw [h j (hs j z) z, Bool.and_false, Bool.and_false]
theorem and_off {f : Nat → Int32} {act : Int32} {n k : Nat} (hk : k < 16) (hn : n ≤ 8) (hs : ∀ j, bt act j = true → j < n) : ((act &&& (onS f (nI k) n ^^^ (-1))) = 0) ↔ ∀ j, j < n → bt act j = true → bt (f j) k = true := by
  constructor
  · intro h j hj ha
    have := congrArg (fun x => bt x j) h
    simp only [bt_and, bt_xor, bt_m1, bt_0, bt_on f hk n hn, ha, decide_eq_true hj, Bool.true_and, decide_eq_true (show j < 32 by omega), Bool.xor_true, Bool.not_eq_false'] at this
    exact this
  · intro h
    apply bt_ext
    intro j hj
    rw [bt_and, bt_0, bt_xor, bt_m1, bt_on f hk n hn]
    cases z : bt act j with
    | false => rfl
    | true => rw [h j (hs j z) z, decide_eq_true (hs j z), decide_eq_true hj]; rfl
theorem bt_maC (g : Nat → Int32) (act : Int32) {k : Nat} (hk : k < 16) (w : Bool) : ∀ (n : Nat), n ≤ 8 → ∀ j, j < 32 → bt (maC g (if w = true then 1 else 0) (nI k) act n) j = (bt act j && (!decide (j < n) || (bt (g (1 + 4 * j + 0)) k == w)))
  | 0, _, j, _ => by
    show bt act j = _
    rw [decide_eq_false (Nat.not_lt_zero _)]; simp
  | n + 1, hn, j, hj => by
    show bt (maC g (if w = true then 1 else 0) (nI k) act n &&& (if (((g (1 + 4 * n + 0)) >>> (nI k &&& 31)) &&& 1) = (if w = true then 1 else 0) then (-1 : Int32) else ((1 <<< ((nI n) &&& 31)) ^^^ (-1)))) j = _
    rw [bt_and, bt_maC g act hk w n (by omega) j hj, bitI hk]
    by_cases e : j = n
    · subst e
      rw [decide_eq_false (Nat.lt_irrefl _), decide_eq_true (Nat.lt_succ_self _)]
      by_cases e2 : bt (g (1 + 4 * j + 0)) k = w
      · rw [if_pos (ite_bit.mpr e2), bt_m1, decide_eq_true hj, e2]; simp
      · rw [if_neg (fun z => e2 (ite_bit.mp z)), bt_xor, bt_m1, bt_sh' (by omega), decide_eq_true rfl, decide_eq_true hj, show (bt (g (1 + 4 * j + 0)) k == w) = false from beq_eq_false_iff_ne.mpr e2]
        simp
    · have h0 : bt (if (if bt (g (1 + 4 * n + 0)) k = true then (1 : Int32) else 0) = (if w = true then 1 else 0) then (-1 : Int32) else ((1 <<< ((nI n) &&& 31)) ^^^ (-1))) j = true := by
        by_cases e3 : (if bt (g (1 + 4 * n + 0)) k = true then (1 : Int32) else 0) = (if w = true then 1 else 0)
        · rw [if_pos e3, bt_m1, decide_eq_true hj]
        · rw [if_neg e3, bt_xor, bt_m1, bt_sh' (by omega), decide_eq_false e, decide_eq_true hj]; rfl
      rw [h0, Bool.and_true, show decide (j < n + 1) = decide (j < n) from decide_eq_decide.mpr (by omega)]
theorem act_eq {f g : Nat → Int32} {act : Int32} {n k : Nat} (hk : k < 16) (hn : n ≤ 8) (hs : ∀ j, bt act j = true → j < n) (hfg : ∀ j, j < n → g (1 + 4 * j + 0) = f j) (w : Bool) :
    maC g (if w = true then 1 else 0) (nI k) act n = act &&& (if (if w = true then (1 : Int32) else 0) = 1 then (onS f (nI k) n) else ((onS f (nI k) n) ^^^ (-1))) := by
  apply bt_ext
  intro j hj
  rw [bt_maC g act hk w n hn j hj, bt_and]
  cases z : bt act j with
  | false => rfl
  | true =>
    have h := hs j z
    rw [decide_eq_true h, hfg j h]
    cases w with
    | true => rw [if_pos rfl, if_pos rfl, bt_on f hk n hn, decide_eq_true h]; simp
    | false => rw [if_neg Bool.false_ne_true, if_neg (by decide), bt_xor, bt_m1, bt_on f hk n hn, decide_eq_true h, decide_eq_true hj]; simp
theorem act_sub {act x : Int32} {n : Nat} (hs : ∀ j, bt act j = true → j < n) : ∀ j, bt (act &&& x) j = true → j < n := by
  intro j h
  rw [bt_and, Bool.and_eq_true] at h
  exact hs j h.1
theorem full_sub0 : ∀ (n : Fin 9) (j : Fin 32), bt ((1 <<< ((nI n.val) &&& 31)) - 1) j.val = true → j.val < n.val := by decide +kernel
theorem full_sub {n : Nat} (hn : n ≤ 8) : ∀ j, bt ((1 <<< ((nI n) &&& 31)) - 1) j = true → j < n := by
  intro j h
  rcases Nat.lt_or_ge j 32 with z | z
  · exact full_sub0 ⟨n, by omega⟩ ⟨j, z⟩ h
  · rw [bt_hi z] at h; exact absurd h Bool.false_ne_true
