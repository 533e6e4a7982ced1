section RRt
variable {y er b d h : Nat → Nat → Int32} {SB SD SH : Nat → Nat → Nat → Int32} {c : Nat} {x : Nat → Nat → Int32} {L : Nat}
theorem RR.out (r : RR y er b d h SB SD SH c x L) : RR (mOut y) (setE er (-2)) b d h SB SD SH c x L := r.cnt (by decide)
theorem RR.romCode (r : RR y er b d h SB SD SH c x L) (q : Int32) : rcR (y 0) q = f_X5_romCode_r er b d h (nOf d) q ∧ RR (rcY y q) (f_X5_romCode_er er b d h (nOf d) q) b d h SB SD SH c x L := by
  unfold rcR rcY f_X5_romCode_r f_X5_romCode_er
  rw [r.1.1.2.1.1]
  by_cases e : 0 ≤ q ∧ q ≤ d 4 0 - 1
  · have e2 := (in_iff r.n.1 r.n.2).mp e
    have z := (i32_in2 e r.n.1 r.n.2).1
    have h8 := r.n.2
    rw [if_pos e, if_pos e2, if_pos e, if_pos e2]; exact ⟨(r.1.1.2.1.2 _ (by omega)).1, r⟩
  · have e2 : ¬ (0 ≤ q ∧ q < d 4 0) := fun z => e ((in_iff r.n.1 r.n.2).mpr z)
    rw [if_neg e, if_neg e2, if_neg e, if_neg e2]; exact ⟨rfl, r.out⟩
theorem RR.found (r : RR y er b d h SB SD SH c x L) (q : Int32) : fdR (y 0) q = f_X5_found_r er b d h (hOf h) q ∧ RR (fdY y q) (f_X5_found_er er b d h (hOf h) q) b d h SB SD SH c x L := by
  have h6 := r.m.2
  unfold fdR fdY f_X5_found_r f_X5_found_er
  rw [r.1.1.2.2.1]
  by_cases e : 0 ≤ q ∧ q ≤ h 1 0 - 1
  · have e2 := (in_iff r.m.1 (by omega)).mp e
    have z := (i32_in2 e r.m.1 (by omega)).1
    rw [if_pos e, if_pos e2, if_pos e, if_pos e2]; exact ⟨r.1.1.2.2.2 _ (by omega), r⟩
  · have e2 : ¬ (0 ≤ q ∧ q < h 1 0) := fun z => e ((in_iff r.m.1 (by omega)).mpr z)
    rw [if_neg e, if_neg e2, if_neg e, if_neg e2]; exact ⟨rfl, r.out⟩
theorem RR.crc (r : RR y er b d h SB SD SH c x L) (q : Int32) : mcR q = f_X5_crc_r er b d h q ∧ RR (mcY y q) (f_X5_crc_er er b d h q) b d h SB SD SH c x L := by
  unfold mcR mcY f_X5_crc_r f_X5_crc_er
  by_cases e : 0 ≤ q ∧ q ≤ 4095
  · rw [if_pos e, if_pos e, if_pos e]; exact ⟨rfl, r⟩
  · rw [if_neg e, if_neg e, if_neg e]; exact ⟨rfl, r.out⟩
theorem RR.errs (r : RR y er b d h SB SD SH c x L) (q : Int32) : ecR y q = f_X5_errorCount_r er b d h q ∧ RR (ecY y q) (f_X5_errorCount_er er b d h q) b d h SB SD SH c x L := by
  unfold ecR ecY f_X5_errorCount_r f_X5_errorCount_er
  by_cases e : eP q
  · rw [if_pos e, if_pos e, if_pos e, if_pos e]; exact ⟨by rw [r.2.2.1.1], r⟩
  · rw [if_neg e, if_neg e, if_neg e, if_neg e]; exact ⟨rfl, r.out⟩
theorem RR.share (r : RR y er b d h SB SD SH c x L) (q : Int32) : fsR (y 0) q (nOf d) = f_X5_familyShareBits_r er b d h (nOf d) q ∧ RR (fsY y q) (f_X5_familyShareBits_er er b d h (nOf d) q) b d h SB SD SH c x L := by
  have h8 := r.n.2
  have em : memN (mRo (y 0)) q (nOf d) = memN (d 0) q (nOf d) := by
    unfold memN; rw [memS_congr (f := mRo (y 0)) (f' := d 0) q (nOf d) (fun j hj => (r.1.1.2.1.2 j (by omega)).1)]
  unfold fsR fsY f_X5_familyShareBits_r f_X5_familyShareBits_er
  rw [em]
  by_cases e : 0 ≤ q ∧ q ≤ 15
  · rw [if_pos e, if_pos e, if_pos e]; exact ⟨rfl, r⟩
  · rw [if_neg e, if_neg e, if_neg e]; exact ⟨rfl, r.out⟩
theorem byte_id0 : ∀ (k : Fin 128), vp_nar .byte (nI k.val).toInt8.toInt32 = nI k.val := by decide +kernel
theorem byte_id {q : Int32} (h : 0 ≤ q ∧ q ≤ 127) : vp_nar .byte q.toInt8.toInt32 = q := by
  obtain ⟨j, hj, rfl⟩ := nI_of (x := q) (by simpa using h.1)
  have h2 := h.2
  rw [show (127 : Int32) = nI 127 from rfl, nI_leI hj (by decide)] at h2
  exact byte_id0 ⟨j, by omega⟩
theorem RR.app (r : RR y er b d h SB SD SH c x L) (q : Int32) : apR y q = f_X5_append_r er x L q ∧ ∃ L', RR (apY y q L) (f_X5_append_er er x L q) b d h SB SD SH c (f_X5_append_x er x L q) L' := by
  obtain ⟨r1, r2, r3, t1, t2, t3, t4, t5⟩ := id r
  unfold apR apY f_X5_append_r f_X5_append_er f_X5_append_x f_X1_put_r f_X1_put_x
  rw [t2, t3]
  by_cases e : 0 ≤ q ∧ q ≤ 127
  · rw [if_pos e, if_pos e, if_pos e, if_pos e, if_pos e]
    by_cases e2 : L = 120
    · have c1 : nI L = 120 := by rw [e2]; rfl
      have c2 : ¬ nI L < 120 := by rw [e2]; decide
      rw [if_pos c1, if_neg c2, if_pos c1, if_neg c2, if_neg c2]
      exact ⟨rfl, L, r.cnt (by decide)⟩
    · have c1 : ¬ nI L = 120 := by rw [show (120 : Int32) = nI 120 from rfl, nI_eq (by omega) (by decide)]; exact e2
      have c2 : nI L < 120 := by rw [show (120 : Int32) = nI 120 from rfl, nI_ltI (by omega) (by decide)]; omega
      rw [if_neg c1, if_pos c2, if_neg c1, if_pos c2, if_pos c2, if_pos c2, if_pos c2, byte_id e]
      refine ⟨rfl, L + 1, r1, r2, r3, ?_, nI_1 L, nI_1 L, by omega, ?_⟩
      · show upd (x 0) L q = upd (y 4) L q; rw [t1]
      · intro j hj
        show 0 ≤ (if j = L then q else y 4 j)
        by_cases z : j = L
        · rw [if_pos z]; exact e.1
        · rw [if_neg z]; exact t5 j (by omega)
  · rw [if_neg e, if_neg e, if_neg e, if_neg e, if_neg e]; exact ⟨rfl, L, r.out⟩
theorem RR.clr (r : RR y er b d h SB SD SH c x L) : y 7 2 = f_X1_empty_r x ∧ RR (rs y 7 2 0) er b d h SB SD SH c (f_X1_empty_x x) 0 := by
  obtain ⟨r1, r2, r3, t1, t2, t3, t4, t5⟩ := r
  exact ⟨t3.trans t2.symm, r1, r2, r3, t1, rfl, rfl, by omega, fun j hj => absurd hj (Nat.not_lt_zero _)⟩
theorem RR.ahead (r : RR y er b d h SB SD SH c x L) : nI (maG 20 (y 0)) = nI (caG d (nOf d) 20 b) ∧ RR (va_up y 1 (y 0)) er b d h SB SD SH c x L := ⟨by rw [ca_eq r.n.1 r.n.2 20 b h (y 0) r.1.1 r.1.2.1 ⟨_, r.m.1, r.m.2⟩], r⟩
theorem prG_all (f : Nat → Int32) (L : Nat) : ∀ (j nc : Nat), (prG f L j nc).1 = true → ∀ i, nc ≤ i → i < (prG f L j nc).2.2 → (rcT f L (cpP f L i)).1 = true
  | 0, nc, h => by rw [prG_0] at h; exact absurd (show false = true from h) Bool.false_ne_true
  | j + 1, nc, h => by
    rw [prG_s] at h ⊢
    by_cases e : (rcT f L (cpP f L nc)).1 = true
    · rw [if_pos e] at h ⊢
      by_cases e2 : cpP f L (nc + 1) = L
      · rw [if_pos e2]
        intro i h1 h2
        have h3 : i < nc + 1 := h2
        obtain rfl : i = nc := by omega
        exact e
      · rw [if_neg e2] at h ⊢
        intro i h1 h2
        rcases Nat.eq_or_lt_of_le h1 with z | z
        · subst z; exact e
        · exact prG_all f L j (nc + 1) h i z h2
    · rw [if_neg e] at h; exact absurd (show false = true from h) Bool.false_ne_true
theorem rcT_need {f : Nat → Int32} {L p : Nat} (h : (rcT f L p).1 = true) : ¬ f_X1_numbersNeeded_r (atP f L p) = -1 := by
  intro z
  unfold rcT at h
  rw [if_pos z] at h
  exact absurd (show false = true from h) Bool.false_ne_true
theorem RR.exec (r : RR y er b d h SB SD SH c x L) {u v : Nat → Nat → Int32} (hu : prQ x u L) (hv : (prT (y 4) L).1 = true → ∀ i, i < (prT (y 4) L).2.2 → prM (y 4) L v i) :
    mxR y v L = exR er x u L b d h ∧ mxOk y v L = exOk er x u L b d h ∧ mxSt y v L = exSt er x u L b d h ∧ ((prT (x 0) L).1 = true → (mxT y v L).2.2.1 = (exT er x u L b d h).2.2.1 ∧ R0 (mxT y v L).2.2.2 (exT er x u L b d h).2.2.2.1 (exT er x u L b d h).2.2.2.2.1 (exT er x u L b d h).2.2.2.2.2 ∧ BI (exT er x u L b d h).2.2.2.1 ∧ WF (exT er x u L b d h).2.2.2.1 (exT er x u L b d h).2.2.2.2.1 (exT er x u L b d h).2.2.2.2.2) := by
  have t1 : x 0 = y 4 := r.2.2.2.1
  unfold prQ at hu
  rw [t1] at hu
  unfold mxR exR mxOk exOk mxSt exSt
  rw [t1]
  cases hp : (prT (y 4) L).1 with
  | false => simp
  | true =>
    have key := ex_eq (er := er) (u := u) (v := v) (f := y 4) (L := L) (N := (prT (y 4) L).2.2) (fun i hi => ⟨(hu.2.2 hp).2.2 i hi, hv hp i hi, rcT_need (prG_all (y 4) L 60 0 hp i (Nat.zero_le _) hi)⟩) (prT (y 4) L).2.2 0 b d h (y 0) (Nat.zero_add _) r.1.1 r.1.2.1 r.1.2.2
    have eT : exT er x u L b d h = exG er u (prT (y 4) L).2.2 0 b d h := by unfold exT; rw [t1]
    have eM : mxT y v L = mxG (v 5) (v 6) (prT (y 4) L).2.2 0 (y 0) := rfl
    rw [eT, eM, key.1, key.2.1]
    exact ⟨rfl, rfl, rfl, fun _ => key.2.2⟩
end RRt
