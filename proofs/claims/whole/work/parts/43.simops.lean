theorem alarm_eq {g : Nat → Int32} {d : Nat → Nat → Int32} {n : Nat} (q ru x : Int32) (r : RD g d) (hc : d 4 0 = nI n) (h8 : n ≤ 8) : mAlR g q ru x n = f_X2_storeAlarm_r d q ru x n ∧ RD (mAlG g q ru x n) (f_X2_storeAlarm_d d q ru x n) ∧ ∀ j, 33 ≤ j → mAlG g q ru x n j = g j := by
  unfold mAlR mAlG f_X2_storeAlarm_r f_X2_storeAlarm_d f_X6_doAlarm_r f_X6_doAlarm_y0
  rw [ite_self]
  show (if 0 ≤ q ∧ q ≤ (g 0) - 1 then _ else _) = _ ∧ RD (if 0 ≤ q ∧ q ≤ (g 0) - 1 then (if 0 ≤ ru ∧ ru ≤ 3 then (if (-999) ≤ x ∧ x ≤ 999 then (upd (upd g (1 + 4 * q.toNatClampNeg + 2) ru) (1 + 4 * q.toNatClampNeg + 3) x) else g) else g) else g) _ ∧ ∀ j, 33 ≤ j → (if 0 ≤ q ∧ q ≤ (g 0) - 1 then (if 0 ≤ ru ∧ ru ≤ 3 then (if (-999) ≤ x ∧ x ≤ 999 then (upd (upd g (1 + 4 * q.toNatClampNeg + 2) ru) (1 + 4 * q.toNatClampNeg + 3) x) else g) else g) else g) j = g j
  rw [r.1]
  by_cases e : 0 ≤ q ∧ q ≤ d 4 0 - 1
  · have e2 := (in_iff hc h8).mp e
    have z := (i32_in2 e hc h8).1
    rw [if_pos e, if_pos e, if_pos e2, if_pos e2]
    by_cases e4 : 0 ≤ ru ∧ ru ≤ 3
    · rw [if_pos e4, if_pos e4, if_pos e4, if_pos e4]
      by_cases e3 : (-999) ≤ x ∧ x ≤ 999
      · rw [if_pos e3, if_pos e3, if_pos e3, if_pos e3]
        have hr := r.2 q.toNatClampNeg (by omega)
        refine ⟨?_, ⟨r.1, fun k hk => ?_⟩, fun j hj => ?_⟩
        · have a1 : (rs (rs (fun _ => g) 0 (1 + 4 * q.toNatClampNeg + 2) ru) 0 (1 + 4 * q.toNatClampNeg + 3) x) 0 (1 + 4 * q.toNatClampNeg + 1) = (rs (rs d 2 q.toNatClampNeg ru) 3 q.toNatClampNeg x) 1 q.toNatClampNeg := by
            show (if _ = _ then x else if _ = _ then ru else g _) = d 1 q.toNatClampNeg; rw [if_neg (by omega), if_neg (by omega)]; exact hr.2.1
          have a2 : (rs (rs (fun _ => g) 0 (1 + 4 * q.toNatClampNeg + 2) ru) 0 (1 + 4 * q.toNatClampNeg + 3) x) 0 (1 + 4 * q.toNatClampNeg + 2) = (rs (rs d 2 q.toNatClampNeg ru) 3 q.toNatClampNeg x) 2 q.toNatClampNeg := by
            show (if _ = _ then x else if _ = _ then ru else g _) = (if _ = _ then ru else _); rw [if_neg (by omega), if_pos rfl, if_pos rfl]
          have a3 : (rs (rs (fun _ => g) 0 (1 + 4 * q.toNatClampNeg + 2) ru) 0 (1 + 4 * q.toNatClampNeg + 3) x) 0 (1 + 4 * q.toNatClampNeg + 3) = (rs (rs d 2 q.toNatClampNeg ru) 3 q.toNatClampNeg x) 3 q.toNatClampNeg := by
            show (if _ = _ then x else _) = (if _ = _ then x else _); rw [if_pos rfl, if_pos rfl]
          rw [a1, a2, a3]
        · have hk2 := r.2 k hk
          refine ⟨?_, ?_, ?_, ?_⟩
          · show (if _ = _ then x else if _ = _ then ru else g _) = d 0 k; rw [if_neg (by omega), if_neg (by omega)]; exact hk2.1
          · show (if _ = _ then x else if _ = _ then ru else g _) = d 1 k; rw [if_neg (by omega), if_neg (by omega)]; exact hk2.2.1
          · show (if 1 + 4 * k + 2 = 1 + 4 * q.toNatClampNeg + 3 then x else if 1 + 4 * k + 2 = 1 + 4 * q.toNatClampNeg + 2 then ru else g _) = (if k = q.toNatClampNeg then ru else d 2 k)
            by_cases z2 : k = q.toNatClampNeg
            · rw [if_pos z2, if_neg (by omega), if_pos (by omega)]
            · rw [if_neg z2, if_neg (by omega), if_neg (by omega)]; exact hk2.2.2.1
          · show (if 1 + 4 * k + 3 = 1 + 4 * q.toNatClampNeg + 3 then x else if 1 + 4 * k + 3 = 1 + 4 * q.toNatClampNeg + 2 then ru else g _) = (if k = q.toNatClampNeg then x else d 3 k)
            by_cases z2 : k = q.toNatClampNeg
            · rw [if_pos z2, if_pos (by omega)]
            · rw [if_neg z2, if_neg (by omega), if_neg (by omega)]; exact hk2.2.2.2
        · show (if _ = _ then x else if _ = _ then ru else g j) = g j; rw [if_neg (by omega), if_neg (by omega)]
      · rw [if_neg e3, if_neg e3, if_neg e3, if_neg e3]; exact ⟨rfl, r, fun _ _ => rfl⟩
    · rw [if_neg e4, if_neg e4, if_neg e4, if_neg e4]; exact ⟨rfl, r, fun _ _ => rfl⟩
  · have e2 : ¬ (0 ≤ q ∧ q < d 4 0) := fun z => e ((in_iff hc h8).mpr z)
    rw [if_neg e, if_neg e, if_neg e2, if_neg e2]; exact ⟨rfl, r, fun _ _ => rfl⟩
/-- a change of the search alone -/
theorem R0.bus {g g' : Nat → Int32} {b b' d h : Nat → Nat → Int32} (r : R0 g b d h) (rb : RB g' b') (e : ∀ j, j < 33 ∨ 40 ≤ j → g' j = g j) : R0 g' b' d h := ⟨rb, r.2.1.congr (fun j hj => e j (Or.inl hj)), r.2.2.congr (fun j hj => e j (Or.inr hj))⟩
theorem R0.dev {g g' : Nat → Int32} {b d d' h : Nat → Nat → Int32} (r : R0 g b d h) (rd : RD g' d') (e : ∀ j, 33 ≤ j → g' j = g j) : R0 g' b d' h := ⟨r.1.congr (fun j hj _ => e j hj), rd, r.2.2.congr (fun j hj => e j (by omega))⟩
theorem upd_off {g : Nat → Int32} {k : Nat} {v : Int32} (h1 : 33 ≤ k) (h2 : k < 40) : ∀ j, j < 33 ∨ 40 ≤ j → upd g k v j = g j := fun j hj => if_neg (by omega)
theorem reset_off {g : Nat → Int32} : ∀ j, j < 33 ∨ 40 ≤ j → resetG g j = g j := fun j hj => by unfold resetG; rw [upd_off (by decide) (by decide) j hj, upd_off (by decide) (by decide) j hj, upd_off (by decide) (by decide) j hj, upd_off (by decide) (by decide) j hj]
theorem R0.reset {g : Nat → Int32} {b d h : Nat → Nat → Int32} (r : R0 g b d h) : R0 (resetG g) (resetB b) d h := r.bus r.1.reset reset_off
theorem mode_eq {g : Nat → Int32} {b d h : Nat → Nat → Int32} (q : Int32) (r : R0 g b d h) : dmR g q = f_X0_switchMode_r b q ∧ R0 (dmG g q) (f_X0_switchMode_b b q) d h := by
  unfold dmR dmG f_X0_switchMode_r f_X0_switchMode_b
  by_cases e : 0 ≤ q ∧ q ≤ 1
  · rw [if_pos e, if_pos e, if_pos e, if_pos e]
    exact ⟨r.1.2.2.2.2.1, r.bus ⟨rfl, rfl, rfl, rfl, rfl, r.1.2.2.2.2.2.1, r.1.2.2.2.2.2.2⟩ (fun j hj => (upd_off (by decide) (by decide) j hj).trans (reset_off j hj))⟩
  · rw [if_neg e, if_neg e, if_neg e, if_neg e]; exact ⟨rfl, r⟩
theorem skip_eq {g : Nat → Int32} {b d h : Nat → Nat → Int32} (r : R0 g b d h) : g 35 = f_X0_leaveFamily_r b ∧ R0 (dsG g) (f_X0_leaveFamily_b b) d h := by
  unfold f_X0_leaveFamily_r f_X0_leaveFamily_b
  rw [ite_self]
  refine ⟨r.1.2.2.1, ?_⟩
  have off : ∀ j, j < 33 ∨ 40 ≤ j → dsG g j = g j := fun j hj => by unfold dsG; rw [upd_off (by decide) (by decide) j hj, upd_off (by decide) (by decide) j hj, upd_off (by decide) (by decide) j hj]
  by_cases e : b 0 2 = -1
  · rw [if_pos e]
    refine r.bus ⟨r.1.1, r.1.2.2.1, rfl, ?_, r.1.2.2.2.2.1, r.1.2.2.2.2.2.1, r.1.2.2.2.2.2.2⟩ off
    show (if g 35 = -1 then (1 : Int32) else g 36) = 1; rw [r.1.2.2.1, if_pos e]
  · rw [if_neg e]
    refine r.bus ⟨r.1.1, r.1.2.2.1, rfl, ?_, r.1.2.2.2.2.1, r.1.2.2.2.2.2.1, r.1.2.2.2.2.2.2⟩ off
    show (if g 35 = -1 then (1 : Int32) else g 36) = b 0 3; rw [r.1.2.2.1, if_neg e]; exact r.1.2.2.2.1
theorem target_eq {g : Nat → Int32} {b d h : Nat → Nat → Int32} (q : Int32) (r : R0 g b d h) : dtR q = f_X0_aimAtFamily_r b q ∧ R0 (dtG g q) (f_X0_aimAtFamily_b b q) d h := by
  unfold dtR dtG f_X0_aimAtFamily_r f_X0_aimAtFamily_b
  by_cases e : 0 ≤ q ∧ q ≤ 15
  · rw [if_pos e, if_pos e, if_pos e]
    exact ⟨rfl, r.bus ⟨rfl, rfl, rfl, rfl, r.1.2.2.2.2.1, r.1.2.2.2.2.2.1, r.1.2.2.2.2.2.2⟩ (fun j hj => ((upd_off (by decide) (by decide) j hj).trans (upd_off (by decide) (by decide) j hj)).trans (reset_off j hj))⟩
  · rw [if_neg e, if_neg e, if_neg e]; exact ⟨rfl, r⟩
theorem noise_eq {g : Nat → Int32} {b d h : Nat → Nat → Int32} (q : Int32) (r : R0 g b d h) : dnR g q = f_X0_disturb_r b q ∧ R0 (dnG g q) (f_X0_disturb_b b q) d h := by
  unfold dnR dnG f_X0_disturb_r f_X0_disturb_b
  by_cases e : (-1) ≤ q ∧ q ≤ 31
  · rw [if_pos e, if_pos e, if_pos e, if_pos e]
    exact ⟨r.1.2.2.2.2.2.1, r.bus ⟨r.1.1, r.1.2.1, r.1.2.2.1, r.1.2.2.2.1, r.1.2.2.2.2.1, rfl, r.1.2.2.2.2.2.2⟩ (upd_off (by decide) (by decide))⟩
  · rw [if_neg e, if_neg e, if_neg e, if_neg e]; exact ⟨rfl, r⟩
/-! the saved states -/
def RS (f : Nat → Int32) (c : Nat) (SB SD SH : Nat → Nat → Nat → Int32) : Prop := ∀ i, i < c → R0 (fun j => f (47 * i + j)) (SB i) (SD i) (SH i)
theorem RS.push {f g : Nat → Int32} {c : Nat} {SB SD SH : Nat → Nat → Nat → Int32} {b d h : Nat → Nat → Int32} (s : RS f c SB SD SH) (h5 : c ≤ 5) (r : R0 g b d h) : RS (svR f c g) (pN c) (pV SB c b) (pV SD c d) (pV SH c h) := by
  intro i hi
  unfold svR pV
  unfold pN at hi
  by_cases e : c = 5
  · simp only [if_pos e] at hi ⊢
    by_cases z : i = 4
    · subst z
      have e1 : ∀ (S : Nat → Nat → Nat → Int32) (x : Nat → Nat → Int32), va_up (rot S) 4 x 4 = x := fun S x => if_pos rfl
      rw [e1, e1, e1]
      exact r.congr (fun j hj => by unfold cpA; rw [if_pos (by omega), show 47 * 4 + j - 188 = j by omega])
    · have e1 : ∀ (S : Nat → Nat → Nat → Int32) (x : Nat → Nat → Int32), va_up (rot S) 4 x i = S (i + 1) := fun S x => (if_neg z).trans (if_neg z)
      rw [e1, e1, e1]
      exact (s (i + 1) (by omega)).congr (fun j hj => by unfold cpA shS; rw [if_neg (by omega), if_pos (by omega), show 47 * i + j + 47 = 47 * (i + 1) + j by omega])
  · simp only [if_neg e] at hi ⊢
    by_cases z : i = c
    · subst z
      have e1 : ∀ (S : Nat → Nat → Nat → Int32) (x : Nat → Nat → Int32), va_up S i x i = x := fun S x => if_pos rfl
      rw [e1, e1, e1]
      exact r.congr (fun j hj => by unfold cpA; rw [if_pos (by omega), show 47 * i + j - 47 * i = j by omega])
    · have e1 : ∀ (S : Nat → Nat → Nat → Int32) (x : Nat → Nat → Int32), va_up S c x i = S i := fun S x => if_neg z
      rw [e1, e1, e1]
      exact (s i (by omega)).congr (fun j hj => by unfold cpA; rw [if_neg (by omega)])
/-- a property of the saved states, kept by a push -/
theorem pV_all {α : Type} {P : α → Prop} {S : Nat → α} {c : Nat} {x : α} (h : ∀ i, i < 5 → P (S i)) (hx : P x) (h5 : c ≤ 5) : ∀ i, i < 5 → P (pV S c x i) := by
  intro i hi
  unfold pV
  by_cases e : c = 5
  · rw [if_pos e]
    show P (if i = 4 then x else rot S i)
    by_cases z : i = 4
    · rw [if_pos z]; exact hx
    · rw [if_neg z]; show P (if i = 4 then _ else _); rw [if_neg z]; exact h _ (by omega)
  · rw [if_neg e]
    show P (if i = c then x else S i)
    by_cases z : i = c
    · rw [if_pos z]; exact hx
    · rw [if_neg z]; exact h i hi
