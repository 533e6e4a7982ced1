/-- a record with one place changed -/
def rs (r : Nat → Nat → Int32) (i k : Nat) (v : Int32) : Nat → Nat → Int32 := va_up r i (upd (r i) k v)
section GX
variable {p : Program} {l : Launch} {e : Env} {R : Room} {s : State} {m : MethodId} {args : Array Value} {below : List Frame} {meth : Method} {c : Code} {cc : ByteArray} {own : String} {E : gE} {A : Nat → Prop} {nL cells slots : Nat} {Q : State → Prop} {w : va_W} {pc : Nat} {lv : List (Nat × Value)} {st rest : List Value}
theorem x_ifB_eq (C : Cx p s m args c cc nL own E A) {P : Prop} [Decidable P] {off : Int} {tgt : Nat} (hd : decode cc pc = .ok (.ifCond .eq off, 3)) (ht : (pc : Int) + off = (tgt : Int)) (k1 : ¬ P → Wd p l e R s m args below meth c E A nL cells slots Q w tgt lv st) (k2 : P → Wd p l e R s m args below meth c E A nL cells slots Q w (pc + 3) lv st) : Wd p l e R s m args below meth c E A nL cells slots Q w pc lv (.int (if P then 1 else 0) :: st) := by
  by_cases h : P
  · rw [if_pos h]; exact x_if_eq C hd ht (fun q => absurd q (by decide)) (fun _ => k2 h)
  · rw [if_neg h]; exact x_if_eq C hd ht (fun _ => k1 h) (fun q => absurd rfl q)
theorem x_ifB_ne (C : Cx p s m args c cc nL own E A) {P : Prop} [Decidable P] {off : Int} {tgt : Nat} (hd : decode cc pc = .ok (.ifCond .ne off, 3)) (ht : (pc : Int) + off = (tgt : Int)) (k1 : P → Wd p l e R s m args below meth c E A nL cells slots Q w tgt lv st) (k2 : ¬ P → Wd p l e R s m args below meth c E A nL cells slots Q w (pc + 3) lv st) : Wd p l e R s m args below meth c E A nL cells slots Q w pc lv (.int (if P then 1 else 0) :: st) := by
  by_cases h : P
  · rw [if_pos h]; exact x_if_ne C hd ht (fun _ => k1 h) (fun q => absurd q (by decide))
  · rw [if_neg h]; exact x_if_ne C hd ht (fun q => absurd rfl q) (fun _ => k2 h)
theorem x_ialdN (C : Cx p s m args c cc nL own E A) (q0 : Nat) {a n K : Nat} {f : Nat → Int32} {i x : Int32} (ha : w[q0]? = some (a, .inl (E.2.1, n, .inl f))) (hi : i = nI K) (hK : K < n) (hn : n < 2 ^ 31) (hx : f K = x) (hd : decode cc pc = .ok (.iaload, 1)) (k : Wd p l e R s m args below meth c E A nL cells slots Q w (pc + 1) lv (.int x :: st)) : Wd p l e R s m args below meth c E A nL cells slots Q w pc lv (.int i :: .ref a :: st) := by
  subst hi
  exact x_iald C q0 ha (vp_in_nI hK hn) (by rw [nI_clamp (by omega)]; exact hx) hd k
theorem x_baldN (C : Cx p s m args c cc nL own E A) (q0 : Nat) {a n K : Nat} {f : Nat → Int32} {i x : Int32} (ha : w[q0]? = some (a, .inl (E.2.2.1, n, .inl f))) (hi : i = nI K) (hK : K < n) (hn : n < 2 ^ 31) (hx : f K = x) (hd : decode cc pc = .ok (.baload, 1)) (k : Wd p l e R s m args below meth c E A nL cells slots Q w (pc + 1) lv (.int x :: st)) : Wd p l e R s m args below meth c E A nL cells slots Q w pc lv (.int i :: .ref a :: st) := by
  subst hi
  exact x_bald C q0 ha (vp_in_nI hK hn) (by rw [nI_clamp (by omega)]; exact hx) hd k
theorem x_iastN (C : Cx p s m args c cc nL own E A) (q0 : Nat) {a n K : Nat} {f : Nat → Int32} {i x : Int32} (ha : w[q0]? = some (a, .inl (E.2.1, n, .inl f))) (hi : i = nI K) (hK : K < n) (hn : n < 2 ^ 31) (w1 : va_W) (hw : w.set q0 (a, .inl (E.2.1, n, .inl (upd f K x))) = w1) (hd : decode cc pc = .ok (.iastore, 1)) (k : Wd p l e R s m args below meth c E A nL cells slots Q w1 (pc + 1) lv st) : Wd p l e R s m args below meth c E A nL cells slots Q w pc lv (.int x :: .int i :: .ref a :: st) := by
  subst hi
  exact x_iast C q0 ha (vp_in_nI hK hn) w1 (by rw [nI_clamp (by omega)]; exact hw) hd k
theorem x_bastN (C : Cx p s m args c cc nL own E A) (q0 : Nat) {a n K : Nat} {f : Nat → Int32} {i x : Int32} (ha : w[q0]? = some (a, .inl (E.2.2.1, n, .inl f))) (hi : i = nI K) (hK : K < n) (hn : n < 2 ^ 31) (w1 : va_W) (hw : w.set q0 (a, .inl (E.2.2.1, n, .inl (upd f K (vp_nar .byte x)))) = w1) (hd : decode cc pc = .ok (.bastore, 1)) (k : Wd p l e R s m args below meth c E A nL cells slots Q w1 (pc + 1) lv st) : Wd p l e R s m args below meth c E A nL cells slots Q w pc lv (.int x :: .int i :: .ref a :: st) := by
  subst hi
  exact x_bast C q0 ha (vp_in_nI hK hn) w1 (by rw [nI_clamp (by omega)]; exact hw) hd k
theorem Wd.up {W1 : Nat → va_W} {LV : Nat → List (Nat × Value)} (I : Nat → Prop) (K0 N : Nat) (h : K0 ≤ N) (h0 : I K0) (hx : I N → Wd p l e R s m args below meth c E A nL cells slots Q (W1 N) pc (LV N) st) (hs : ∀ k, K0 ≤ k → k < N → I k → (I (k + 1) → Wd p l e R s m args below meth c E A nL cells slots Q (W1 (k + 1)) pc (LV (k + 1)) st) → Wd p l e R s m args below meth c E A nL cells slots Q (W1 k) pc (LV k) st) : Wd p l e R s m args below meth c E A nL cells slots Q (W1 K0) pc (LV K0) st := by
  have key : ∀ (j k : Nat), k + j = N → K0 ≤ k → I k → Wd p l e R s m args below meth c E A nL cells slots Q (W1 k) pc (LV k) st := by
    intro j
    induction j with
    | zero => intro k hk _ hI; obtain rfl : k = N := by omega
              exact hx hI
    | succ j ih => intro k hk h1 hI; exact hs k h1 (by omega) hI (fun hI2 => ih (k + 1) (by omega) (by omega) hI2)
  exact key (N - K0) K0 (by omega) (Nat.le_refl _) h0
theorem Wd.mrg {P : Prop} [Decidable P] {pc2 : Nat} {a b : Int32} {w2 : va_W} {lv2 : List (Nat × Value)} {st2 : List Value} (br : (P → Wd p l e R s m args below meth c E A nL cells slots Q w2 pc2 lv2 (.int a :: st2)) → (¬ P → Wd p l e R s m args below meth c E A nL cells slots Q w2 pc2 lv2 (.int b :: st2)) → Wd p l e R s m args below meth c E A nL cells slots Q w pc lv st) (k : Wd p l e R s m args below meth c E A nL cells slots Q w2 pc2 lv2 (.int (if P then a else b) :: st2)) : Wd p l e R s m args below meth c E A nL cells slots Q w pc lv st :=
  br (fun h => by rw [if_pos h] at k; exact k) (fun h => by rw [if_neg h] at k; exact k)
theorem Wd.cut {P : Prop} {pc2 : Nat} {w2 : va_W} {lv2 : List (Nat × Value)} {st2 : List Value} (br : (P → Wd p l e R s m args below meth c E A nL cells slots Q w2 pc2 lv2 st2) → Wd p l e R s m args below meth c E A nL cells slots Q w pc lv st) (k : P → Wd p l e R s m args below meth c E A nL cells slots Q w2 pc2 lv2 st2) : Wd p l e R s m args below meth c E A nL cells slots Q w pc lv st := br k
theorem Wd.wh {σ : Type} {W1 : σ → va_W} {LV : σ → List (Nat × Value)} (I : σ → Prop) (μ : σ → Nat) (x0 : σ) (h0 : I x0) (hs : ∀ x, I x → (∀ y, I y → μ y < μ x → Wd p l e R s m args below meth c E A nL cells slots Q (W1 y) pc (LV y) st) → Wd p l e R s m args below meth c E A nL cells slots Q (W1 x) pc (LV x) st) : Wd p l e R s m args below meth c E A nL cells slots Q (W1 x0) pc (LV x0) st := by
  have key : ∀ (j : Nat) (x : σ), μ x < j → I x → Wd p l e R s m args below meth c E A nL cells slots Q (W1 x) pc (LV x) st := by
    intro j
    induction j with
    | zero => intro x hx _; exact absurd hx (Nat.not_lt_zero _)
    | succ j ih => intro x hx hI; exact hs x hI (fun y hy hm => ih y (by omega) hy)
  exact key (μ x0 + 1) x0 (Nat.lt_succ_self _) h0
theorem Wd.wh1 {T1 : Type} {W1 : T1 → va_W} {LV : T1 → List (Nat × Value)} (I : T1 → Prop) (μ : T1 → Nat) (x1 : T1) (h0 : I x1) (hs : ∀ x1, I x1 → (∀ y1, I y1 → μ y1 < μ x1 → Wd p l e R s m args below meth c E A nL cells slots Q (W1 y1) pc (LV y1) st) → Wd p l e R s m args below meth c E A nL cells slots Q (W1 x1) pc (LV x1) st) : Wd p l e R s m args below meth c E A nL cells slots Q (W1 x1) pc (LV x1) st := Wd.wh (σ := T1) (W1 := fun x => W1 x) (LV := fun x => LV x) (fun x => I x) (fun x => μ x) (x1) h0 (fun x hI ih => hs x hI (fun y1 hy hm => ih (y1) hy hm))
theorem Wd.wh2 {T1 T2 : Type} {W1 : T1 → T2 → va_W} {LV : T1 → T2 → List (Nat × Value)} (I : T1 → T2 → Prop) (μ : T1 → T2 → Nat) (x1 : T1) (x2 : T2) (h0 : I x1 x2) (hs : ∀ x1 x2, I x1 x2 → (∀ y1 y2, I y1 y2 → μ y1 y2 < μ x1 x2 → Wd p l e R s m args below meth c E A nL cells slots Q (W1 y1 y2) pc (LV y1 y2) st) → Wd p l e R s m args below meth c E A nL cells slots Q (W1 x1 x2) pc (LV x1 x2) st) : Wd p l e R s m args below meth c E A nL cells slots Q (W1 x1 x2) pc (LV x1 x2) st := Wd.wh (σ := T1 × T2) (W1 := fun x => W1 x.1 x.2) (LV := fun x => LV x.1 x.2) (fun x => I x.1 x.2) (fun x => μ x.1 x.2) (x1, x2) h0 (fun x hI ih => hs (x.1) (x.2) hI (fun y1 y2 hy hm => ih (y1, y2) hy hm))
theorem Wd.wh3 {T1 T2 T3 : Type} {W1 : T1 → T2 → T3 → va_W} {LV : T1 → T2 → T3 → List (Nat × Value)} (I : T1 → T2 → T3 → Prop) (μ : T1 → T2 → T3 → Nat) (x1 : T1) (x2 : T2) (x3 : T3) (h0 : I x1 x2 x3) (hs : ∀ x1 x2 x3, I x1 x2 x3 → (∀ y1 y2 y3, I y1 y2 y3 → μ y1 y2 y3 < μ x1 x2 x3 → Wd p l e R s m args below meth c E A nL cells slots Q (W1 y1 y2 y3) pc (LV y1 y2 y3) st) → Wd p l e R s m args below meth c E A nL cells slots Q (W1 x1 x2 x3) pc (LV x1 x2 x3) st) : Wd p l e R s m args below meth c E A nL cells slots Q (W1 x1 x2 x3) pc (LV x1 x2 x3) st := Wd.wh (σ := T1 × T2 × T3) (W1 := fun x => W1 x.1 x.2.1 x.2.2) (LV := fun x => LV x.1 x.2.1 x.2.2) (fun x => I x.1 x.2.1 x.2.2) (fun x => μ x.1 x.2.1 x.2.2) (x1, x2, x3) h0 (fun x hI ih => hs (x.1) (x.2.1) (x.2.2) hI (fun y1 y2 y3 hy hm => ih (y1, y2, y3) hy hm))
theorem Wd.wh4 {T1 T2 T3 T4 : Type} {W1 : T1 → T2 → T3 → T4 → va_W} {LV : T1 → T2 → T3 → T4 → List (Nat × Value)} (I : T1 → T2 → T3 → T4 → Prop) (μ : T1 → T2 → T3 → T4 → Nat) (x1 : T1) (x2 : T2) (x3 : T3) (x4 : T4) (h0 : I x1 x2 x3 x4) (hs : ∀ x1 x2 x3 x4, I x1 x2 x3 x4 → (∀ y1 y2 y3 y4, I y1 y2 y3 y4 → μ y1 y2 y3 y4 < μ x1 x2 x3 x4 → Wd p l e R s m args below meth c E A nL cells slots Q (W1 y1 y2 y3 y4) pc (LV y1 y2 y3 y4) st) → Wd p l e R s m args below meth c E A nL cells slots Q (W1 x1 x2 x3 x4) pc (LV x1 x2 x3 x4) st) : Wd p l e R s m args below meth c E A nL cells slots Q (W1 x1 x2 x3 x4) pc (LV x1 x2 x3 x4) st := Wd.wh (σ := T1 × T2 × T3 × T4) (W1 := fun x => W1 x.1 x.2.1 x.2.2.1 x.2.2.2) (LV := fun x => LV x.1 x.2.1 x.2.2.1 x.2.2.2) (fun x => I x.1 x.2.1 x.2.2.1 x.2.2.2) (fun x => μ x.1 x.2.1 x.2.2.1 x.2.2.2) (x1, x2, x3, x4) h0 (fun x hI ih => hs (x.1) (x.2.1) (x.2.2.1) (x.2.2.2) hI (fun y1 y2 y3 y4 hy hm => ih (y1, y2, y3, y4) hy hm))
theorem Wd.wh5 {T1 T2 T3 T4 T5 : Type} {W1 : T1 → T2 → T3 → T4 → T5 → va_W} {LV : T1 → T2 → T3 → T4 → T5 → List (Nat × Value)} (I : T1 → T2 → T3 → T4 → T5 → Prop) (μ : T1 → T2 → T3 → T4 → T5 → Nat) (x1 : T1) (x2 : T2) (x3 : T3) (x4 : T4) (x5 : T5) (h0 : I x1 x2 x3 x4 x5) (hs : ∀ x1 x2 x3 x4 x5, I x1 x2 x3 x4 x5 → (∀ y1 y2 y3 y4 y5, I y1 y2 y3 y4 y5 → μ y1 y2 y3 y4 y5 < μ x1 x2 x3 x4 x5 → Wd p l e R s m args below meth c E A nL cells slots Q (W1 y1 y2 y3 y4 y5) pc (LV y1 y2 y3 y4 y5) st) → Wd p l e R s m args below meth c E A nL cells slots Q (W1 x1 x2 x3 x4 x5) pc (LV x1 x2 x3 x4 x5) st) : Wd p l e R s m args below meth c E A nL cells slots Q (W1 x1 x2 x3 x4 x5) pc (LV x1 x2 x3 x4 x5) st := Wd.wh (σ := T1 × T2 × T3 × T4 × T5) (W1 := fun x => W1 x.1 x.2.1 x.2.2.1 x.2.2.2.1 x.2.2.2.2) (LV := fun x => LV x.1 x.2.1 x.2.2.1 x.2.2.2.1 x.2.2.2.2) (fun x => I x.1 x.2.1 x.2.2.1 x.2.2.2.1 x.2.2.2.2) (fun x => μ x.1 x.2.1 x.2.2.1 x.2.2.2.1 x.2.2.2.2) (x1, x2, x3, x4, x5) h0 (fun x hI ih => hs (x.1) (x.2.1) (x.2.2.1) (x.2.2.2.1) (x.2.2.2.2) hI (fun y1 y2 y3 y4 y5 hy hm => ih (y1, y2, y3, y4, y5) hy hm))
theorem Wd.wh6 {T1 T2 T3 T4 T5 T6 : Type} {W1 : T1 → T2 → T3 → T4 → T5 → T6 → va_W} {LV : T1 → T2 → T3 → T4 → T5 → T6 → List (Nat × Value)} (I : T1 → T2 → T3 → T4 → T5 → T6 → Prop) (μ : T1 → T2 → T3 → T4 → T5 → T6 → Nat) (x1 : T1) (x2 : T2) (x3 : T3) (x4 : T4) (x5 : T5) (x6 : T6) (h0 : I x1 x2 x3 x4 x5 x6) (hs : ∀ x1 x2 x3 x4 x5 x6, I x1 x2 x3 x4 x5 x6 → (∀ y1 y2 y3 y4 y5 y6, I y1 y2 y3 y4 y5 y6 → μ y1 y2 y3 y4 y5 y6 < μ x1 x2 x3 x4 x5 x6 → Wd p l e R s m args below meth c E A nL cells slots Q (W1 y1 y2 y3 y4 y5 y6) pc (LV y1 y2 y3 y4 y5 y6) st) → Wd p l e R s m args below meth c E A nL cells slots Q (W1 x1 x2 x3 x4 x5 x6) pc (LV x1 x2 x3 x4 x5 x6) st) : Wd p l e R s m args below meth c E A nL cells slots Q (W1 x1 x2 x3 x4 x5 x6) pc (LV x1 x2 x3 x4 x5 x6) st := Wd.wh (σ := T1 × T2 × T3 × T4 × T5 × T6) (W1 := fun x => W1 x.1 x.2.1 x.2.2.1 x.2.2.2.1 x.2.2.2.2.1 x.2.2.2.2.2) (LV := fun x => LV x.1 x.2.1 x.2.2.1 x.2.2.2.1 x.2.2.2.2.1 x.2.2.2.2.2) (fun x => I x.1 x.2.1 x.2.2.1 x.2.2.2.1 x.2.2.2.2.1 x.2.2.2.2.2) (fun x => μ x.1 x.2.1 x.2.2.1 x.2.2.2.1 x.2.2.2.2.1 x.2.2.2.2.2) (x1, x2, x3, x4, x5, x6) h0 (fun x hI ih => hs (x.1) (x.2.1) (x.2.2.1) (x.2.2.2.1) (x.2.2.2.2.1) (x.2.2.2.2.2) hI (fun y1 y2 y3 y4 y5 y6 hy hm => ih (y1, y2, y3, y4, y5, y6) hy hm))
end GX
theorem ga_X0_init : gArity yX0_init 0 := ⟨by decide +kernel, by decide +kernel, by decide +kernel⟩
theorem ga_X0_copyFrom : gArity yX0_copyFrom 1 := ⟨by decide +kernel, by decide +kernel, by decide +kernel⟩
theorem ga_X0_switchMode : gArity yX0_switchMode 1 := ⟨by decide +kernel, by decide +kernel, by decide +kernel⟩
theorem ga_X0_restart : gArity yX0_restart 0 := ⟨by decide +kernel, by decide +kernel, by decide +kernel⟩
theorem ga_X0_leaveFamily : gArity yX0_leaveFamily 0 := ⟨by decide +kernel, by decide +kernel, by decide +kernel⟩
theorem ga_X0_aimAtFamily : gArity yX0_aimAtFamily 1 := ⟨by decide +kernel, by decide +kernel, by decide +kernel⟩
theorem ga_X0_disturb : gArity yX0_disturb 1 := ⟨by decide +kernel, by decide +kernel, by decide +kernel⟩
theorem ga_X0_searchPass : gArity yX0_searchPass 0 := ⟨by decide +kernel, by decide +kernel, by decide +kernel⟩
theorem ga_X0_mixInto : gArity yX0_mixInto 1 := ⟨by decide +kernel, by decide +kernel, by decide +kernel⟩
theorem ga_X0_fail : gArity yX0_fail 1 := ⟨by decide +kernel, by decide +kernel, by decide +kernel⟩
theorem ga_X0_readSlot : gArity yX0_readSlot 2 := ⟨by decide +kernel, by decide +kernel, by decide +kernel⟩
theorem ga_X0_writeSlot : gArity yX0_writeSlot 2 := ⟨by decide +kernel, by decide +kernel, by decide +kernel⟩
theorem ga_X0_directionAt : gArity yX0_directionAt 1 := ⟨by decide +kernel, by decide +kernel, by decide +kernel⟩
theorem ga_X0_noteFamilyZero : gArity yX0_noteFamilyZero 1 := ⟨by decide +kernel, by decide +kernel, by decide +kernel⟩
theorem ga_X1_init : gArity yX1_init 0 := ⟨by decide +kernel, by decide +kernel, by decide +kernel⟩
theorem ga_X1_hasRoom : gArity yX1_hasRoom 0 := ⟨by decide +kernel, by decide +kernel, by decide +kernel⟩
theorem ga_X1_put : gArity yX1_put 1 := ⟨by decide +kernel, by decide +kernel, by decide +kernel⟩
theorem ga_X1_empty : gArity yX1_empty 0 := ⟨by decide +kernel, by decide +kernel, by decide +kernel⟩
theorem ga_X1_letterOf : gArity yX1_letterOf 1 := ⟨by decide +kernel, by decide +kernel, by decide +kernel⟩
theorem ga_X1_numberOf : gArity yX1_numberOf 2 := ⟨by decide +kernel, by decide +kernel, by decide +kernel⟩
theorem ga_X1_parse : gArity yX1_parse 0 := ⟨by decide +kernel, by decide +kernel, by decide +kernel⟩
theorem ga_X1_readCommand : gArity yX1_readCommand 0 := ⟨by decide +kernel, by decide +kernel, by decide +kernel⟩
theorem ga_X1_readNumber : gArity yX1_readNumber 2 := ⟨by decide +kernel, by decide +kernel, by decide +kernel⟩
theorem ga_X1_skipSpaces : gArity yX1_skipSpaces 0 := ⟨by decide +kernel, by decide +kernel, by decide +kernel⟩
theorem ga_X1_byteAtCursor : gArity yX1_byteAtCursor 0 := ⟨by decide +kernel, by decide +kernel, by decide +kernel⟩
theorem ga_X1_isDigit : gArity yX1_isDigit 1 := ⟨by decide +kernel, by decide +kernel, by decide +kernel⟩
theorem ga_X1_numbersNeeded : gArity yX1_numbersNeeded 1 := ⟨by decide +kernel, by decide +kernel, by decide +kernel⟩
theorem ga_X1_mayBeNegative : gArity yX1_mayBeNegative 2 := ⟨by decide +kernel, by decide +kernel, by decide +kernel⟩
theorem ga_X2_init : gArity yX2_init 0 := ⟨by decide +kernel, by decide +kernel, by decide +kernel⟩
theorem ga_X2_copyFrom : gArity yX2_copyFrom 1 := ⟨by decide +kernel, by decide +kernel, by decide +kernel⟩
theorem ga_X2_has : gArity yX2_has 1 := ⟨by decide +kernel, by decide +kernel, by decide +kernel⟩
theorem ga_X2_attach : gArity yX2_attach 2 := ⟨by decide +kernel, by decide +kernel, by decide +kernel⟩
theorem ga_X2_detach : gArity yX2_detach 1 := ⟨by decide +kernel, by decide +kernel, by decide +kernel⟩
theorem ga_X2_storeReading : gArity yX2_storeReading 2 := ⟨by decide +kernel, by decide +kernel, by decide +kernel⟩
theorem ga_X2_storeAlarm : gArity yX2_storeAlarm 3 := ⟨by decide +kernel, by decide +kernel, by decide +kernel⟩
theorem ga_X2_wholeSet : gArity yX2_wholeSet 0 := ⟨by decide +kernel, by decide +kernel, by decide +kernel⟩
theorem ga_X2_alarmedSet : gArity yX2_alarmedSet 0 := ⟨by decide +kernel, by decide +kernel, by decide +kernel⟩
theorem ga_X2_setWithOneAt : gArity yX2_setWithOneAt 1 := ⟨by decide +kernel, by decide +kernel, by decide +kernel⟩
theorem ga_X2_membersOf : gArity yX2_membersOf 1 := ⟨by decide +kernel, by decide +kernel, by decide +kernel⟩
theorem ga_X2_mixInto : gArity yX2_mixInto 1 := ⟨by decide +kernel, by decide +kernel, by decide +kernel⟩
theorem ga_X2_hasRom : gArity yX2_hasRom 1 := ⟨by decide +kernel, by decide +kernel, by decide +kernel⟩
theorem ga_X2_closeGap : gArity yX2_closeGap 2 := ⟨by decide +kernel, by decide +kernel, by decide +kernel⟩
theorem ga_X2_isAlarmed : gArity yX2_isAlarmed 1 := ⟨by decide +kernel, by decide +kernel, by decide +kernel⟩
theorem ga_X3_init : gArity yX3_init 0 := ⟨by decide +kernel, by decide +kernel, by decide +kernel⟩
theorem ga_X3_copyFrom : gArity yX3_copyFrom 1 := ⟨by decide +kernel, by decide +kernel, by decide +kernel⟩
theorem ga_X3_has : gArity yX3_has 1 := ⟨by decide +kernel, by decide +kernel, by decide +kernel⟩
theorem ga_X3_remember : gArity yX3_remember 1 := ⟨by decide +kernel, by decide +kernel, by decide +kernel⟩
theorem ga_X3_mixInto : gArity yX3_mixInto 1 := ⟨by decide +kernel, by decide +kernel, by decide +kernel⟩
theorem ga_X3_holds : gArity yX3_holds 1 := ⟨by decide +kernel, by decide +kernel, by decide +kernel⟩
theorem ga_X3_forgetOldest : gArity yX3_forgetOldest 0 := ⟨by decide +kernel, by decide +kernel, by decide +kernel⟩
theorem ga_X4_init : gArity yX4_init 0 := ⟨by decide +kernel, by decide +kernel, by decide +kernel⟩
theorem ga_X4_push : gArity yX4_push 1 := ⟨by decide +kernel, by decide +kernel, by decide +kernel⟩
theorem ga_X4_popInto : gArity yX4_popInto 1 := ⟨by decide +kernel, by decide +kernel, by decide +kernel⟩
theorem ga_X4_dropOldest : gArity yX4_dropOldest 0 := ⟨by decide +kernel, by decide +kernel, by decide +kernel⟩
theorem ga_X5_init : gArity yX5_init 0 := ⟨by decide +kernel, by decide +kernel, by decide +kernel⟩
theorem ga_X5_addDevice : gArity yX5_addDevice 2 := ⟨by decide +kernel, by decide +kernel, by decide +kernel⟩
theorem ga_X5_removeDevice : gArity yX5_removeDevice 1 := ⟨by decide +kernel, by decide +kernel, by decide +kernel⟩
theorem ga_X5_setReading : gArity yX5_setReading 2 := ⟨by decide +kernel, by decide +kernel, by decide +kernel⟩
theorem ga_X5_setAlarm : gArity yX5_setAlarm 3 := ⟨by decide +kernel, by decide +kernel, by decide +kernel⟩
theorem ga_X5_romCode : gArity yX5_romCode 1 := ⟨by decide +kernel, by decide +kernel, by decide +kernel⟩
theorem ga_X5_alarmedDevices : gArity yX5_alarmedDevices 0 := ⟨by decide +kernel, by decide +kernel, by decide +kernel⟩
theorem ga_X5_crc : gArity yX5_crc 1 := ⟨by decide +kernel, by decide +kernel, by decide +kernel⟩
theorem ga_X5_setMode : gArity yX5_setMode 1 := ⟨by decide +kernel, by decide +kernel, by decide +kernel⟩
theorem ga_X5_resetSearch : gArity yX5_resetSearch 0 := ⟨by decide +kernel, by decide +kernel, by decide +kernel⟩
theorem ga_X5_next : gArity yX5_next 0 := ⟨by decide +kernel, by decide +kernel, by decide +kernel⟩
theorem ga_X5_skipFamily : gArity yX5_skipFamily 0 := ⟨by decide +kernel, by decide +kernel, by decide +kernel⟩
theorem ga_X5_targetFamily : gArity yX5_targetFamily 1 := ⟨by decide +kernel, by decide +kernel, by decide +kernel⟩
theorem ga_X5_setNoise : gArity yX5_setNoise 1 := ⟨by decide +kernel, by decide +kernel, by decide +kernel⟩
theorem ga_X5_countAhead : gArity yX5_countAhead 0 := ⟨by decide +kernel, by decide +kernel, by decide +kernel⟩
theorem ga_X5_currentRom : gArity yX5_currentRom 0 := ⟨by decide +kernel, by decide +kernel, by decide +kernel⟩
theorem ga_X5_lastDiscrepancy : gArity yX5_lastDiscrepancy 0 := ⟨by decide +kernel, by decide +kernel, by decide +kernel⟩
theorem ga_X5_lastFamilyDiscrepancy : gArity yX5_lastFamilyDiscrepancy 0 := ⟨by decide +kernel, by decide +kernel, by decide +kernel⟩
theorem ga_X5_isLastDevice : gArity yX5_isLastDevice 0 := ⟨by decide +kernel, by decide +kernel, by decide +kernel⟩
theorem ga_X5_slotsUsed : gArity yX5_slotsUsed 0 := ⟨by decide +kernel, by decide +kernel, by decide +kernel⟩
theorem ga_X5_found : gArity yX5_found 1 := ⟨by decide +kernel, by decide +kernel, by decide +kernel⟩
theorem ga_X5_familyShareBits : gArity yX5_familyShareBits 1 := ⟨by decide +kernel, by decide +kernel, by decide +kernel⟩
theorem ga_X5_append : gArity yX5_append 1 := ⟨by decide +kernel, by decide +kernel, by decide +kernel⟩
theorem ga_X5_clearText : gArity yX5_clearText 0 := ⟨by decide +kernel, by decide +kernel, by decide +kernel⟩
theorem ga_X5_execute : gArity yX5_execute 0 := ⟨by decide +kernel, by decide +kernel, by decide +kernel⟩
theorem ga_X5_stopCause : gArity yX5_stopCause 0 := ⟨by decide +kernel, by decide +kernel, by decide +kernel⟩
theorem ga_X5_undo : gArity yX5_undo 0 := ⟨by decide +kernel, by decide +kernel, by decide +kernel⟩
theorem ga_X5_errorCount : gArity yX5_errorCount 1 := ⟨by decide +kernel, by decide +kernel, by decide +kernel⟩
theorem ga_X5_deviceCount : gArity yX5_deviceCount 0 := ⟨by decide +kernel, by decide +kernel, by decide +kernel⟩
theorem ga_X5_digest : gArity yX5_digest 0 := ⟨by decide +kernel, by decide +kernel, by decide +kernel⟩
theorem ga_X5_settle : gArity yX5_settle 1 := ⟨by decide +kernel, by decide +kernel, by decide +kernel⟩
theorem ga_X5_counted : gArity yX5_counted 1 := ⟨by decide +kernel, by decide +kernel, by decide +kernel⟩
theorem ga_X5_runCommand : gArity yX5_runCommand 1 := ⟨by decide +kernel, by decide +kernel, by decide +kernel⟩
theorem ga_X5_stopsExecution : gArity yX5_stopsExecution 1 := ⟨by decide +kernel, by decide +kernel, by decide +kernel⟩
theorem ga_X5_isErrorCode : gArity yX5_isErrorCode 1 := ⟨by decide +kernel, by decide +kernel, by decide +kernel⟩
theorem ga_X5_isWithin : gArity yX5_isWithin 3 := ⟨by decide +kernel, by decide +kernel, by decide +kernel⟩
theorem ga_X5_bitAt : gArity yX5_bitAt 2 := ⟨by decide +kernel, by decide +kernel, by decide +kernel⟩
theorem ga_X5_crcOf : gArity yX5_crcOf 1 := ⟨by decide +kernel, by decide +kernel, by decide +kernel⟩
theorem ga_X5_romOf : gArity yX5_romOf 2 := ⟨by decide +kernel, by decide +kernel, by decide +kernel⟩
theorem ga_X5_mixed : gArity yX5_mixed 2 := ⟨by decide +kernel, by decide +kernel, by decide +kernel⟩
theorem ga_X5_shareBits : gArity yX5_shareBits 2 := ⟨by decide +kernel, by decide +kernel, by decide +kernel⟩
theorem ga_X6_init : gArity yX6_init 0 := ⟨by decide +kernel, by decide +kernel, by decide +kernel⟩
theorem ga_X6_in : gArity yX6_in 3 := ⟨by decide +kernel, by decide +kernel, by decide +kernel⟩
theorem ga_X6_counted : gArity yX6_counted 1 := ⟨by decide +kernel, by decide +kernel, by decide +kernel⟩
theorem ga_X6_remember : gArity yX6_remember 0 := ⟨by decide +kernel, by decide +kernel, by decide +kernel⟩
theorem ga_X6_restore : gArity yX6_restore 0 := ⟨by decide +kernel, by decide +kernel, by decide +kernel⟩
theorem ga_X6_save : gArity yX6_save 0 := ⟨by decide +kernel, by decide +kernel, by decide +kernel⟩
theorem ga_X6_isError : gArity yX6_isError 1 := ⟨by decide +kernel, by decide +kernel, by decide +kernel⟩
theorem ga_X6_finish : gArity yX6_finish 1 := ⟨by decide +kernel, by decide +kernel, by decide +kernel⟩
theorem ga_X6_undo : gArity yX6_undo 0 := ⟨by decide +kernel, by decide +kernel, by decide +kernel⟩
theorem ga_X6_crcOf : gArity yX6_crcOf 1 := ⟨by decide +kernel, by decide +kernel, by decide +kernel⟩
theorem ga_X6_crc : gArity yX6_crc 1 := ⟨by decide +kernel, by decide +kernel, by decide +kernel⟩
theorem ga_X6_isDevice : gArity yX6_isDevice 1 := ⟨by decide +kernel, by decide +kernel, by decide +kernel⟩
theorem ga_X6_of : gArity yX6_of 2 := ⟨by decide +kernel, by decide +kernel, by decide +kernel⟩
theorem ga_X6_magnitude : gArity yX6_magnitude 1 := ⟨by decide +kernel, by decide +kernel, by decide +kernel⟩
theorem ga_X6_alarmed : gArity yX6_alarmed 1 := ⟨by decide +kernel, by decide +kernel, by decide +kernel⟩
theorem ga_X6_doAdd : gArity yX6_doAdd 2 := ⟨by decide +kernel, by decide +kernel, by decide +kernel⟩
theorem ga_X6_doRemove : gArity yX6_doRemove 1 := ⟨by decide +kernel, by decide +kernel, by decide +kernel⟩
theorem ga_X6_doReading : gArity yX6_doReading 2 := ⟨by decide +kernel, by decide +kernel, by decide +kernel⟩
theorem ga_X6_doAlarm : gArity yX6_doAlarm 3 := ⟨by decide +kernel, by decide +kernel, by decide +kernel⟩
theorem ga_X6_addDevice : gArity yX6_addDevice 2 := ⟨by decide +kernel, by decide +kernel, by decide +kernel⟩
theorem ga_X6_removeDevice : gArity yX6_removeDevice 1 := ⟨by decide +kernel, by decide +kernel, by decide +kernel⟩
theorem ga_X6_setReading : gArity yX6_setReading 2 := ⟨by decide +kernel, by decide +kernel, by decide +kernel⟩
theorem ga_X6_setAlarm : gArity yX6_setAlarm 3 := ⟨by decide +kernel, by decide +kernel, by decide +kernel⟩
theorem ga_X6_romCode : gArity yX6_romCode 1 := ⟨by decide +kernel, by decide +kernel, by decide +kernel⟩
theorem ga_X6_alarms : gArity yX6_alarms 0 := ⟨by decide +kernel, by decide +kernel, by decide +kernel⟩
theorem ga_X6_alarmedDevices : gArity yX6_alarmedDevices 0 := ⟨by decide +kernel, by decide +kernel, by decide +kernel⟩
theorem ga_X6_reset : gArity yX6_reset 0 := ⟨by decide +kernel, by decide +kernel, by decide +kernel⟩
theorem ga_X6_fail : gArity yX6_fail 1 := ⟨by decide +kernel, by decide +kernel, by decide +kernel⟩
theorem ga_X6_noisy : gArity yX6_noisy 2 := ⟨by decide +kernel, by decide +kernel, by decide +kernel⟩
theorem ga_X6_wiredAnd : gArity yX6_wiredAnd 3 := ⟨by decide +kernel, by decide +kernel, by decide +kernel⟩
theorem ga_X6_direction : gArity yX6_direction 3 := ⟨by decide +kernel, by decide +kernel, by decide +kernel⟩
theorem ga_X6_note : gArity yX6_note 1 := ⟨by decide +kernel, by decide +kernel, by decide +kernel⟩
theorem ga_X6_pass : gArity yX6_pass 0 := ⟨by decide +kernel, by decide +kernel, by decide +kernel⟩
theorem ga_X6_doMode : gArity yX6_doMode 1 := ⟨by decide +kernel, by decide +kernel, by decide +kernel⟩
theorem ga_X6_doReset : gArity yX6_doReset 0 := ⟨by decide +kernel, by decide +kernel, by decide +kernel⟩
theorem ga_X6_doSkip : gArity yX6_doSkip 0 := ⟨by decide +kernel, by decide +kernel, by decide +kernel⟩
theorem ga_X6_doTarget : gArity yX6_doTarget 1 := ⟨by decide +kernel, by decide +kernel, by decide +kernel⟩
theorem ga_X6_doNoise : gArity yX6_doNoise 1 := ⟨by decide +kernel, by decide +kernel, by decide +kernel⟩
theorem ga_X6_setMode : gArity yX6_setMode 1 := ⟨by decide +kernel, by decide +kernel, by decide +kernel⟩
theorem ga_X6_resetSearch : gArity yX6_resetSearch 0 := ⟨by decide +kernel, by decide +kernel, by decide +kernel⟩
theorem ga_X6_next : gArity yX6_next 0 := ⟨by decide +kernel, by decide +kernel, by decide +kernel⟩
theorem ga_X6_skipFamily : gArity yX6_skipFamily 0 := ⟨by decide +kernel, by decide +kernel, by decide +kernel⟩
theorem ga_X6_targetFamily : gArity yX6_targetFamily 1 := ⟨by decide +kernel, by decide +kernel, by decide +kernel⟩
theorem ga_X6_setNoise : gArity yX6_setNoise 1 := ⟨by decide +kernel, by decide +kernel, by decide +kernel⟩
theorem ga_X6_countAhead : gArity yX6_countAhead 0 := ⟨by decide +kernel, by decide +kernel, by decide +kernel⟩
theorem ga_X6_currentRom : gArity yX6_currentRom 0 := ⟨by decide +kernel, by decide +kernel, by decide +kernel⟩
theorem ga_X6_lastDiscrepancy : gArity yX6_lastDiscrepancy 0 := ⟨by decide +kernel, by decide +kernel, by decide +kernel⟩
theorem ga_X6_lastFamilyDiscrepancy : gArity yX6_lastFamilyDiscrepancy 0 := ⟨by decide +kernel, by decide +kernel, by decide +kernel⟩
theorem ga_X6_isLastDevice : gArity yX6_isLastDevice 0 := ⟨by decide +kernel, by decide +kernel, by decide +kernel⟩
theorem ga_X6_slotsUsed : gArity yX6_slotsUsed 0 := ⟨by decide +kernel, by decide +kernel, by decide +kernel⟩
theorem ga_X6_found : gArity yX6_found 1 := ⟨by decide +kernel, by decide +kernel, by decide +kernel⟩
theorem ga_X6_familyShareBits : gArity yX6_familyShareBits 1 := ⟨by decide +kernel, by decide +kernel, by decide +kernel⟩
theorem ga_X6_append : gArity yX6_append 1 := ⟨by decide +kernel, by decide +kernel, by decide +kernel⟩
theorem ga_X6_clearText : gArity yX6_clearText 0 := ⟨by decide +kernel, by decide +kernel, by decide +kernel⟩
theorem ga_X6_here : gArity yX6_here 0 := ⟨by decide +kernel, by decide +kernel, by decide +kernel⟩
theorem ga_X6_require : gArity yX6_require 1 := ⟨by decide +kernel, by decide +kernel, by decide +kernel⟩
theorem ga_X6_isDigit : gArity yX6_isDigit 0 := ⟨by decide +kernel, by decide +kernel, by decide +kernel⟩
theorem ga_X6_number : gArity yX6_number 1 := ⟨by decide +kernel, by decide +kernel, by decide +kernel⟩
theorem ga_X6_numbersOf : gArity yX6_numbersOf 1 := ⟨by decide +kernel, by decide +kernel, by decide +kernel⟩
theorem ga_X6_parseCommand : gArity yX6_parseCommand 0 := ⟨by decide +kernel, by decide +kernel, by decide +kernel⟩
theorem ga_X6_doCommand : gArity yX6_doCommand 1 := ⟨by decide +kernel, by decide +kernel, by decide +kernel⟩
theorem ga_X6_execute : gArity yX6_execute 0 := ⟨by decide +kernel, by decide +kernel, by decide +kernel⟩
theorem ga_X6_stopCause : gArity yX6_stopCause 0 := ⟨by decide +kernel, by decide +kernel, by decide +kernel⟩
theorem ga_X6_errorCount : gArity yX6_errorCount 1 := ⟨by decide +kernel, by decide +kernel, by decide +kernel⟩
theorem ga_X6_deviceCount : gArity yX6_deviceCount 0 := ⟨by decide +kernel, by decide +kernel, by decide +kernel⟩
theorem ga_X6_mix : gArity yX6_mix 1 := ⟨by decide +kernel, by decide +kernel, by decide +kernel⟩
theorem ga_X6_digest : gArity yX6_digest 0 := ⟨by decide +kernel, by decide +kernel, by decide +kernel⟩
