section RRu
variable {y er b d h : Nat → Nat → Int32} {SB SD SH : Nat → Nat → Nat → Int32} {c : Nat} {x : Nat → Nat → Int32} {L : Nat}
theorem RR.execR (r : RR y er b d h SB SD SH c x L) {u v y' : Nat → Nat → Int32} (hu : prQ x u L) (hv : (prT (y 4) L).1 = true → ∀ i, i < (prT (y 4) L).2.2 → prM (y 4) L v i)
    (e0 : y' 0 = ySel (mxOk y v L) (mxT y v L).2.2.2 (y 0)) (e2 : y' 2 = ySel (mxOk y v L) (svR (y 2) c (y 0)) (y 2)) (e3 : y' 3 = y 3) (e4 : y' 4 = y 4) (e70 : y' 7 0 = nI (ySel (mxOk y v L) (pN c) c)) (e71 : y' 7 1 = ySel (mxSt y v L) (mxT y v L).2.2.1 (y 7 1)) (e72 : y' 7 2 = y 7 2) :
    RR y' (ySel (exSt er x u L b d h) (rs er 1 0 (exT er x u L b d h).2.2.1) er) (ySel (exOk er x u L b d h) (exT er x u L b d h).2.2.2.1 b) (ySel (exOk er x u L b d h) (exT er x u L b d h).2.2.2.2.1 d) (ySel (exOk er x u L b d h) (exT er x u L b d h).2.2.2.2.2 h) (ySel (exOk er x u L b d h) (pV SB c b) SB) (ySel (exOk er x u L b d h) (pV SD c d) SD) (ySel (exOk er x u L b d h) (pV SH c h) SH) (ySel (exOk er x u L b d h) (pN c) c) u L := by
  obtain ⟨k1, k2, k3, k4⟩ := r.exec hu hv
  rw [k2] at e0 e2 e70
  rw [k3] at e71
  obtain ⟨⟨a1, a2, a3⟩, ⟨s1, s2, s3, s4⟩, ⟨q1, q2⟩, t1, t2, t3, t4, t5⟩ := r
  have hT : u 0 = y' 4 ∧ u 3 0 = nI L ∧ y' 7 2 = nI L ∧ L ≤ 120 ∧ ∀ j, j < L → 0 ≤ y' 4 j := by rw [e4, e72]; exact ⟨hu.1.trans t1, hu.2.1.trans t2, t3, t4, t5⟩
  cases hp : (prT (x 0) L).1 with
  | false =>
    have z1 : exOk er x u L b d h = false := by unfold exOk; rw [hp]; rfl
    have z2 : exSt er x u L b d h = false := by unfold exSt; rw [hp]; rfl
    rw [z1] at e0 e2 e70 ⊢
    rw [z2] at e71 ⊢
    simp only [ySel_f (rfl : false = false)] at e0 e2 e70 e71 ⊢
    exact ⟨⟨by rw [e0]; exact a1, a2, a3⟩, ⟨by rw [e2]; exact s1, s2, s3, e70⟩, ⟨by rw [e3]; exact q1, by rw [e71]; exact q2⟩, hT⟩
  | true =>
    obtain ⟨m1, m2, m3, m4⟩ := k4 hp
    cases hx : (exT er x u L b d h).1 with
    | true =>
      have z1 : exOk er x u L b d h = true := by unfold exOk; rw [hp, hx]; rfl
      have z2 : exSt er x u L b d h = false := by unfold exSt; rw [hp, hx]; rfl
      rw [z1] at e0 e2 e70 ⊢
      rw [z2] at e71 ⊢
      simp only [ySel_f (rfl : false = false), ySel_t (rfl : true = true)] at e0 e2 e70 e71 ⊢
      exact ⟨⟨by rw [e0]; exact m2, m3, m4⟩, ⟨by rw [e2]; exact s1.push s3 a1, pV_all3 (P := fun p q s => BI p ∧ WF p q s) s2 ⟨a2, a3⟩ s3, pN_le s3, e70⟩, ⟨by rw [e3]; exact q1, by rw [e71]; exact q2⟩, hT⟩
    | false =>
      have z1 : exOk er x u L b d h = false := by unfold exOk; rw [hp, hx]; rfl
      have z2 : exSt er x u L b d h = true := by unfold exSt; rw [hp, hx]; rfl
      rw [z1] at e0 e2 e70 ⊢
      rw [z2] at e71 ⊢
      simp only [ySel_f (rfl : false = false), ySel_t (rfl : true = true)] at e0 e2 e70 e71 ⊢
      exact ⟨⟨by rw [e0]; exact a1, a2, a3⟩, ⟨by rw [e2]; exact s1, s2, s3, e70⟩, ⟨by rw [e3]; exact q1, by rw [e71]; exact m1.symm⟩, hT⟩
theorem erD_mx (er : Nat → Nat → Int32) : ∀ k, erD er k = mxE 2633 (er 0) k
  | 0 => rfl
  | k + 1 => by show 31 * erD er k + _ = 31 * mxE 2633 (er 0) k + _; rw [erD_mx er k]
theorem mixH_mx (h : Nat → Nat → Int32) (z : Int64) : ∀ k, mixH h z k = mxE (31 * z + (h 1 0).toInt64) (h 0) k
  | 0 => rfl
  | k + 1 => by show 31 * mixH h z k + _ = 31 * mxE _ (h 0) k + _; rw [mixH_mx h z k]
theorem mxE_congr (z : Int64) {f f' : Nat → Int32} : ∀ k, (∀ j, j < k → f j = f' j) → mxE z f k = mxE z f' k
  | 0, _ => rfl
  | k + 1, e => by show 31 * mxE z f k + (f k).toInt64 = 31 * mxE z f' k + (f' k).toInt64; rw [mxE_congr z k (fun j hj => e j (by omega)), e k (Nat.lt_succ_self _)]
theorem mixD_mx {g : Nat → Int32} {d : Nat → Nat → Int32} (r : RD g d) (z : Int64) : ∀ k, k ≤ 8 → mixD d z k = mxE (31 * z + (g 0).toInt64) (fun j => g (1 + j)) (4 * k)
  | 0, _ => by show 31 * z + (d 4 0).toInt64 = 31 * z + (g 0).toInt64; rw [r.1]
  | k + 1, hk => by
    have hr := r.2 k (by omega)
    show 31 * (31 * (31 * (31 * mixD d z k + (d 0 k).toInt64) + (d 1 k).toInt64) + (d 2 k).toInt64) + (d 3 k).toInt64 = 31 * (31 * (31 * (31 * mxE (31 * z + (g 0).toInt64) (fun j => g (1 + j)) (4 * k) + (g (1 + 4 * k + 0)).toInt64) + (g (1 + 4 * k + 1)).toInt64) + (g (1 + 4 * k + 2)).toInt64) + (g (1 + 4 * k + 3)).toInt64
    rw [mixD_mx r z k (by omega), hr.1, hr.2.1, hr.2.2.1, hr.2.2.2]
theorem mixInto_flag {b d h : Nat → Nat → Int32} (hf : b 0 3 = 0 ∨ b 0 3 = 1) (z : Int64) (n nh : Nat) : f_X0_mixInto_r b d h z n nh = mixH h (31 * (31 * (31 * (31 * (31 * (31 * (31 * (mixD d z n) + (b 0 0).toInt64) + (b 0 1).toInt64) + (b 0 2).toInt64) + (b 0 3).toInt64) + (b 0 4).toInt64) + (b 0 5).toInt64) + (b 0 6).toInt64) nh := by
  unfold f_X0_mixInto_r
  rcases hf with e | e
  · rw [if_pos e, e]
  · rw [if_neg (by rw [e]; decide), e]
theorem RR.dig (r : RR y er b d h SB SD SH c x L) : mDig y (nOf d) (hOf h) = 31 * (31 * (31 * (f_X0_mixInto_r b d h (erD er 8) (nOf d) (hOf h)) + (x 3 0).toInt64) + (nI c).toInt64) + (er 1 0).toInt64 := by
  have h6 := r.m.2
  obtain ⟨⟨⟨b0, b1, b2, b3, b4, b5, b6⟩, rd, rh⟩, bi, w⟩ := r.1
  obtain ⟨⟨e1, e2⟩, t1, t2, t3, t4, t5⟩ := r.2.2
  rw [mixInto_flag bi.2.2.2, mixH_mx, mixD_mx rd _ _ r.n.2, erD_mx, e1, e2, t2, ← t3, ← r.2.1.2.2.2, ← b0, ← b1, ← b2, ← b3, ← b4, ← b5, ← b6, ← rh.1]
  unfold mDig
  rw [mxE_congr _ (f := fun j => y 0 (41 + j)) (f' := h 0) (hOf h) (fun j hj => rh.2 j (by omega))]
  rfl
theorem RR.init : RR (rs (rs (rs zR 0 34 (-1)) 0 35 (-1)) 0 38 (-1)) zR iB zR zR (fun _ => iB) (fun _ => zR) (fun _ => zR) 0 zR 0 := by
  have bi : BI iB := ⟨bt_0 31, Or.inl rfl, Or.inl rfl, Or.inl rfl⟩
  have w : WF iB zR zR := ⟨⟨0, rfl, by decide⟩, ⟨0, rfl, by decide⟩, Or.inl rfl⟩
  refine ⟨⟨⟨⟨rfl, rfl, rfl, rfl, rfl, rfl, rfl⟩, ⟨rfl, fun k hk => ?_⟩, ⟨rfl, fun k hk => ?_⟩⟩, bi, w⟩, ⟨fun i hi => absurd hi (Nat.not_lt_zero _), fun _ _ => ⟨bi, w⟩, by decide, rfl⟩, ⟨rfl, rfl⟩, rfl, rfl, rfl, by decide, fun j hj => absurd hj (Nat.not_lt_zero _)⟩
  · have aux : ∀ j, j < 33 → (rs (rs (rs zR 0 34 (-1)) 0 35 (-1)) 0 38 (-1)) 0 j = 0 := fun j hj => by
      show (if j = 38 then (-1 : Int32) else if j = 35 then -1 else if j = 34 then -1 else 0) = 0
      rw [if_neg (by omega), if_neg (by omega), if_neg (by omega)]
    exact ⟨aux _ (by omega), aux _ (by omega), aux _ (by omega), aux _ (by omega)⟩
  · show (if 41 + k = 38 then (-1 : Int32) else if 41 + k = 35 then -1 else if 41 + k = 34 then -1 else 0) = 0
    rw [if_neg (by omega), if_neg (by omega), if_neg (by omega)]
end RRu
