def R0 (g : Nat → Int32) (b d h : Nat → Nat → Int32) : Prop := RB g b ∧ RD g d ∧ RH g h
theorem R0.congr {g g' : Nat → Int32} {b d h : Nat → Nat → Int32} (r : R0 g b d h) (e : ∀ j, j < 47 → g' j = g j) : R0 g' b d h :=
  ⟨r.1.congr (fun j _ h2 => e j (by omega)), r.2.1.congr (fun j h2 => e j (by omega)), ⟨(e 40 (by decide)).trans r.2.2.1, fun k hk => (e _ (by omega)).trans (r.2.2.2 k hk)⟩⟩
theorem hasS_congr {f f' : Nat → Int32} (q : Int32) : ∀ (n : Nat), (∀ j, j < n → f j = f' j) → hasS f q n = hasS f' q n
  | 0, _ => rfl
  | n + 1, h => by rw [hasS_s, hasS_s, h n (Nat.lt_succ_self _), hasS_congr q n (fun j hj => h j (by omega))]
theorem note_eq {g : Nat → Int32} {h : Nat → Nat → Int32} {nh : Nat} (q : Int32) (r : RH g h) (hm : h 1 0 = nI nh) (h6 : nh ≤ 6) : RH (ntG g q nh) (f_X3_remember_h h q nh) := by
  unfold ntG f_X6_note_y0 f_X3_remember_h
  show RH (if hasS (fun j0 => g (41 + j0)) q nh = true then g else (if (g 40) = 6 then (upd (upd (upd (upd (upd (upd (upd (upd g 41 (g 42)) 42 (g 43)) 43 (g 44)) 44 (g 45)) 45 (g 46)) 40 ((g 40) - 1)) 46 q) 40 (((g 40) - 1) + 1)) else (upd (upd g (41 + nh) q) 40 ((g 40) + 1)))) _
  rw [hasS_congr (f := fun j0 => g (41 + j0)) (f' := h 0) q nh (fun j hj => r.2 j (by omega))]
  by_cases e : hasS (h 0) q nh = true
  · rw [if_pos e, if_pos e]; exact r
  · rw [if_neg e, if_neg e]
    by_cases e6 : nh = 6
    · subst e6
      rw [if_pos (by rw [r.1, hm]; rfl), if_neg (by rw [hm]; decide)]
      refine ⟨?_, fun k hk => ?_⟩
      · show (g 40 - 1) + 1 = (h 1 0 - 1) + 1; rw [r.1]
      · have a1 := r.2 1 (by decide)
        have a2 := r.2 2 (by decide)
        have a3 := r.2 3 (by decide)
        have a4 := r.2 4 (by decide)
        have a5 := r.2 5 (by decide)
        rcases (show k = 0 ∨ k = 1 ∨ k = 2 ∨ k = 3 ∨ k = 4 ∨ k = 5 by omega) with rfl | rfl | rfl | rfl | rfl | rfl
        · exact a1
        · exact a2
        · exact a3
        · exact a4
        · exact a5
        · rfl
    · rw [if_neg (by rw [r.1, hm, show (6 : Int32) = nI 6 from rfl, nI_eq (by omega) (by decide)]; exact e6), if_pos (by rw [hm, show (6 : Int32) = nI 6 from rfl, nI_ltI (by omega) (by decide)]; omega)]
      refine ⟨?_, fun k hk => ?_⟩
      · show (g 40) + 1 = h 1 0 + 1; rw [r.1]
      · show (if 41 + k = 40 then _ else if 41 + k = 41 + nh then q else g (41 + k)) = (if k = nh then q else h 0 k)
        rw [if_neg (by omega)]
        by_cases z : k = nh
        · rw [if_pos z, if_pos (by omega)]
        · rw [if_neg z, if_neg (by omega)]; exact r.2 k hk
theorem passH_eq {g : Nat → Int32} {b d h : Nat → Nat → Int32} {n nh : Nat} (r : R0 g b d h) (hf : b 0 3 = 0 ∨ b 0 3 = 1) (hc : d 4 0 = nI n) (hn : n ≤ 8) (hm : h 1 0 = nI nh) (h6 : nh ≤ 6) : (mPass g n).1 = (cPass d n b).1 ∧ R0 (mHis (mPass g n) nh) (cPass d n b).2.2 d (cHis h nh (cPass d n b)) := by
  obtain ⟨e1, e2, rb⟩ := pass_eq r.1 r.2.1 hf hc hn
  have ag : ∀ j, j < 33 ∨ 40 ≤ j → (mPass g n).2.2 j = g j := fun j hj => mPass_at g n (by omega) (by omega) (by omega) (by omega) (by omega) (by omega)
  have rd : RD (mPass g n).2.2 d := r.2.1.congr (fun j hj => ag j (Or.inl hj))
  have rh : RH (mPass g n).2.2 h := r.2.2.congr (fun j hj => ag j (Or.inr hj))
  refine ⟨e1, ?_⟩
  unfold mHis cHis
  rw [e2]
  by_cases e : (cPass d n b).2.1 = 1
  · rw [if_pos e, if_pos e, e1]
    exact ⟨rb.congr (fun j _ h2 => nt_0 _ _ _ h2), rd.congr (fun j h2 => nt_0 _ _ _ (by omega)), note_eq _ rh hm h6⟩
  · rw [if_neg e, if_neg e]; exact ⟨rb, rd, rh⟩
theorem in_iff {q c : Int32} {n : Nat} (hn : c = nI n) (h8 : n ≤ 8) : (0 ≤ q ∧ q ≤ c - 1) ↔ (0 ≤ q ∧ q < c) := by
  constructor
  · intro h
    refine ⟨h.1, ?_⟩
    have z := i32_in2 h hn h8
    rw [z.2, hn, nI_ltI (by omega) (by omega)]; exact z.1
  · intro h
    refine ⟨h.1, ?_⟩
    obtain ⟨j, hj, rfl⟩ := nI_of (x := q) (by simpa using h.1)
    have h2 := h.2
    rw [hn, nI_ltI hj (by omega)] at h2
    rw [hn, nI_m1 (by omega), nI_leI hj (by omega)]; omega
theorem add_eq {g : Nat → Int32} {d : Nat → Nat → Int32} {n : Nat} (fam ser : Int32) (r : RD g d) (hc : d 4 0 = nI n) (h8 : n ≤ 8) : mAddR g fam ser n = f_X2_attach_r d fam ser n ∧ RD (mAddG g fam ser n) (f_X2_attach_d d fam ser n) ∧ ∀ j, 33 ≤ j → mAddG g fam ser n j = g j := by
  have hh : hasS (fun k => g (1 + 4 * k + 0)) (romP fam ser) n = hasS (d 0) (romP fam ser) n := hasS_congr _ n (fun j hj => (r.2 j (by omega)).1)
  unfold mAddR mAddG f_X2_attach_r f_X2_attach_d
  rw [hh, r.1]
  by_cases e1 : 0 ≤ fam ∧ fam ≤ 15
  · rw [if_pos e1, if_pos e1, if_pos e1, if_pos e1]
    by_cases e2 : 0 ≤ ser ∧ ser ≤ 255
    · rw [if_pos e2, if_pos e2, if_pos e2, if_pos e2]
      by_cases e3 : hasS (d 0) (romP fam ser) n = true
      · have e3' := e3
        unfold romP at e3'
        rw [if_pos e3, if_pos e3', if_pos e3, if_pos e3']; exact ⟨rfl, r, fun _ _ => rfl⟩
      · have e3' := e3
        unfold romP at e3'
        rw [if_neg e3, if_neg e3', if_neg e3, if_neg e3']
        by_cases e4 : n = 8
        · rw [if_pos (by rw [hc, e4]; rfl), if_neg (by rw [hc, e4]; decide), if_pos (by rw [hc, e4]; rfl), if_neg (by rw [hc, e4]; decide)]
          exact ⟨rfl, r, fun _ _ => rfl⟩
        · have c1 : ¬ d 4 0 = 8 := by rw [hc, show (8 : Int32) = nI 8 from rfl, nI_eq (by omega) (by decide)]; exact e4
          have c2 : d 4 0 < 8 := by rw [hc, show (8 : Int32) = nI 8 from rfl, nI_ltI (by omega) (by decide)]; omega
          rw [if_neg c1, if_pos c2, if_neg c1, if_pos c2]
          refine ⟨rfl, ⟨rfl, fun k hk => ?_⟩, fun j hj => ?_⟩
          · simp only [upd, rs, va_up]
            by_cases z : k = n
            · subst z
              refine ⟨?_, ?_, ?_, ?_⟩
              · rw [if_neg (by omega), if_neg (by omega), if_neg (by omega), if_neg (by omega), if_pos (by omega)]; simp [romP, upd]
              · rw [if_neg (by omega), if_neg (by omega), if_neg (by omega), if_pos (by omega)]; simp [upd]
              · rw [if_neg (by omega), if_neg (by omega), if_pos (by omega)]; simp [upd]
              · rw [if_neg (by omega), if_pos (by omega)]; simp [upd]
            · have hr := r.2 k hk
              refine ⟨?_, ?_, ?_, ?_⟩
              · rw [if_neg (by omega), if_neg (by omega), if_neg (by omega), if_neg (by omega), if_neg (by omega), hr.1]; simp [z, upd]
              · rw [if_neg (by omega), if_neg (by omega), if_neg (by omega), if_neg (by omega), if_neg (by omega), hr.2.1]; simp [z, upd]
              · rw [if_neg (by omega), if_neg (by omega), if_neg (by omega), if_neg (by omega), if_neg (by omega), hr.2.2.1]; simp [z, upd]
              · rw [if_neg (by omega), if_neg (by omega), if_neg (by omega), if_neg (by omega), if_neg (by omega), hr.2.2.2]; simp [z, upd]
          · simp only [upd]
            rw [if_neg (by omega), if_neg (by omega), if_neg (by omega), if_neg (by omega), if_neg (by omega)]
    · rw [if_neg e2, if_neg e2, if_neg e2, if_neg e2]; exact ⟨rfl, r, fun _ _ => rfl⟩
  · rw [if_neg e1, if_neg e1, if_neg e1, if_neg e1]; exact ⟨rfl, r, fun _ _ => rfl⟩
theorem rem_eq {g : Nat → Int32} {d : Nat → Nat → Int32} {n : Nat} (q : Int32) (r : RD g d) (hc : d 4 0 = nI n) (h8 : n ≤ 8) : mRemR g q n = f_X2_detach_r d q n ∧ RD (mRemG g q n) (f_X2_detach_d d q n) ∧ ∀ j, 33 ≤ j → mRemG g q n j = g j := by
  unfold mRemR mRemG f_X2_detach_r f_X2_detach_d
  rw [r.1]
  by_cases e : 0 ≤ q ∧ q ≤ d 4 0 - 1
  · have e2 := (in_iff hc h8).mp e
    have z := (i32_in2 e hc h8).1
    rw [if_pos e, if_pos e, if_pos e2, if_pos e2]
    refine ⟨by rw [hc]; exact (nI_m1 (by omega)).symm, ⟨?_, fun k hk => ?_⟩, fun j hj => ?_⟩
    · show shF (upd g 0 (d 4 0 - 1)) _ _ 0 = d 4 0 - 1
      unfold shF; rw [if_neg (by omega)]; rfl
    · have aux : ∀ (t : Nat), t < 4 → shF (upd g 0 (d 4 0 - 1)) (1 + 4 * q.toNatClampNeg) (1 + 4 * (n - 1)) (1 + 4 * k + t) = if q.toNatClampNeg ≤ k ∧ k < n - 1 then g (1 + 4 * (k + 1) + t) else g (1 + 4 * k + t) := by
        intro t ht
        unfold shF upd
        by_cases z2 : q.toNatClampNeg ≤ k ∧ k < n - 1
        · rw [if_pos z2, if_pos (by omega), if_neg (by omega), show 1 + 4 * k + t + 4 = 1 + 4 * (k + 1) + t by omega]
        · rw [if_neg z2, if_neg (by omega), if_neg (by omega)]
      rw [aux 0 (by decide), aux 1 (by decide), aux 2 (by decide), aux 3 (by decide)]
      show _ = gap (d 0) q.toNatClampNeg (n - 1) k ∧ _ = gap (d 1) q.toNatClampNeg (n - 1) k ∧ _ = gap (d 2) q.toNatClampNeg (n - 1) k ∧ _ = gap (d 3) q.toNatClampNeg (n - 1) k
      unfold gap
      by_cases z2 : q.toNatClampNeg ≤ k ∧ k < n - 1
      · simp only [if_pos z2]; exact r.2 (k + 1) (by omega)
      · simp only [if_neg z2]; exact r.2 k hk
    · unfold shF upd; rw [if_neg (by omega), if_neg (by omega)]
  · have e2 : ¬ (0 ≤ q ∧ q < d 4 0) := fun z => e ((in_iff hc h8).mpr z)
    rw [if_neg e, if_neg e, if_neg e2, if_neg e2]; exact ⟨rfl, r, fun _ _ => rfl⟩
theorem reading_eq {g : Nat → Int32} {d : Nat → Nat → Int32} {n : Nat} (q x : Int32) (r : RD g d) (hc : d 4 0 = nI n) (h8 : n ≤ 8) : mRdR g q x n = f_X2_storeReading_r d q x n ∧ RD (mRdG g q x n) (f_X2_storeReading_d d q x n) ∧ ∀ j, 33 ≤ j → mRdG g q x n j = g j := by
  unfold mRdR mRdG f_X2_storeReading_r f_X2_storeReading_d f_X6_doReading_r f_X6_doReading_y0
  rw [ite_self]
  show (if 0 ≤ q ∧ q ≤ (g 0) - 1 then _ else _) = _ ∧ RD (if 0 ≤ q ∧ q ≤ (g 0) - 1 then (if (-999) ≤ x ∧ x ≤ 999 then (upd g (1 + 4 * q.toNatClampNeg + 1) x) else g) else g) _ ∧ ∀ j, 33 ≤ j → (if 0 ≤ q ∧ q ≤ (g 0) - 1 then (if (-999) ≤ x ∧ x ≤ 999 then (upd g (1 + 4 * q.toNatClampNeg + 1) x) else g) else g) j = g j
  rw [r.1]
  by_cases e : 0 ≤ q ∧ q ≤ d 4 0 - 1
  · have e2 := (in_iff hc h8).mp e
    have z := (i32_in2 e hc h8).1
    rw [if_pos e, if_pos e, if_pos e2, if_pos e2]
    by_cases e3 : (-999) ≤ x ∧ x ≤ 999
    · rw [if_pos e3, if_pos e3, if_pos e3, if_pos e3]
      have hr := r.2 q.toNatClampNeg (by omega)
      refine ⟨?_, ⟨r.1, fun k hk => ?_⟩, fun j hj => ?_⟩
      · have a1 : (rs (fun _ => g) 0 (1 + 4 * q.toNatClampNeg + 1) x) 0 (1 + 4 * q.toNatClampNeg + 1) = rs d 1 q.toNatClampNeg x 1 q.toNatClampNeg := by
          show (if _ = _ then x else _) = (if _ = _ then x else _); rw [if_pos rfl, if_pos rfl]
        have a2 : (rs (fun _ => g) 0 (1 + 4 * q.toNatClampNeg + 1) x) 0 (1 + 4 * q.toNatClampNeg + 2) = rs d 1 q.toNatClampNeg x 2 q.toNatClampNeg := by
          show (if _ = _ then x else g _) = d 2 q.toNatClampNeg; rw [if_neg (by omega)]; exact hr.2.2.1
        have a3 : (rs (fun _ => g) 0 (1 + 4 * q.toNatClampNeg + 1) x) 0 (1 + 4 * q.toNatClampNeg + 3) = rs d 1 q.toNatClampNeg x 3 q.toNatClampNeg := by
          show (if _ = _ then x else g _) = d 3 q.toNatClampNeg; rw [if_neg (by omega)]; exact hr.2.2.2
        rw [a1, a2, a3]
      · have hk2 := r.2 k hk
        refine ⟨?_, ?_, ?_, ?_⟩
        · show (if _ = _ then x else g _) = d 0 k; rw [if_neg (by omega)]; exact hk2.1
        · show (if 1 + 4 * k + 1 = 1 + 4 * q.toNatClampNeg + 1 then x else g _) = (if k = q.toNatClampNeg then x else d 1 k)
          by_cases z2 : k = q.toNatClampNeg
          · rw [if_pos z2, if_pos (by omega)]
          · rw [if_neg z2, if_neg (by omega)]; exact hk2.2.1
        · show (if _ = _ then x else g _) = d 2 k; rw [if_neg (by omega)]; exact hk2.2.2.1
        · show (if _ = _ then x else g _) = d 3 k; rw [if_neg (by omega)]; exact hk2.2.2.2
      · show (if _ = _ then x else g j) = g j; rw [if_neg (by omega)]
    · rw [if_neg e3, if_neg e3, if_neg e3, if_neg e3]; exact ⟨rfl, r, fun _ _ => rfl⟩
  · have e2 : ¬ (0 ≤ q ∧ q < d 4 0) := fun z => e ((in_iff hc h8).mpr z)
    rw [if_neg e, if_neg e, if_neg e2, if_neg e2]; exact ⟨rfl, r, fun _ _ => rfl⟩
