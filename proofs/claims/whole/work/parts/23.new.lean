section GN
variable {p : Program} {l : Launch} {e : Env} {R : Room} {s : State} {m : MethodId} {args : Array Value} {below : List Frame} {meth : Method} {c : Code} {cc : ByteArray} {own : String} {E : gE} {A : Nat → Prop} {nL cells slots : Nat} {Q : State → Prop} {w : va_W} {pc : Nat} {lv : List (Nat × Value)} {st rest : List Value}
theorem x_new (C : Cx p s m args c cc nL own E A) {Cn : String} {T : u_T} {N ci index : Nat} {fs : List Value} (hin : ∀ z ∈ u_ws Cn T N, z ∈ lw_g) (ty : Nat → FieldType) (hty : ∀ k, k < N → parseFieldDescriptor (T k).2.2.1 = some (ty k)) (hcl : Cond.classLink own index Cn ∈ lw_g) (hinst : Cond.instantiable Cn N ∈ lw_g) (hini : Cond.initialized Cn ∈ lw_g) (hc : vwCl[ci]? = some (Cn, T, N)) (hfs : ∀ j, j < N → defaultValue (ty j) = vp_V fs j) (hcells : cells + 1 ≤ R.cells) (hslots : slots + N ≤ R.slots) (hd : decode cc pc = .ok (.new index, 3)) (k : ∀ q : Nat, Wd p l e R s m args below meth c E A nL (cells + 1) (slots + N) Q (w ++ [(q, .inr (ci, fs))]) (pc + 3) lv (.ref q :: st)) : Wd p l e R s m args below meth c E A nL cells slots Q w pc lv st := fun H locs ls hP hD hS hl => va_new C.1 C.2.1 C.2.2.2.2.1 hin ty hty C.2.2.2.1 (C.t hcl) (C.t hinst) (C.t hini) C.k hP hD hS C.2.2.2.2.2.2 hc hfs hcells hslots hd (fun q H1 p1 d1 s1 => k q H1 locs ls p1 d1 s1 hl)
theorem gT_uni {D : va_G} {tys : List (ClassId × FieldType)} {U : State} {i j : Nat} {a b : ClassId} {ty : FieldType} (h : va_K D vwCl tys U) (hp : refKind ty = false) (hi : tys[i]? = some (a, ty)) (hj : tys[j]? = some (b, ty)) : a = b := by
  have h1 := (h.2 i _ hi).2
  have h2 := (h.2 j _ hj).2
  cases ty with
  | object C => cases hp
  | array t => cases hp
  | _ => exact Option.some.inj (h1.symm.trans h2)
theorem gT_uniQ {D : va_G} {tys : List (ClassId × FieldType)} {U : State} {i j : Nat} {a b : ClassId} {C : String} (h : va_K D vwCl tys U) (hi : tys[i]? = some (a, .object C)) (hj : tys[j]? = some (b, .object C)) : a = b := by
  obtain ⟨_, _, _, _, _, h1⟩ := (h.2 i _ hi).2
  obtain ⟨_, _, _, _, _, h2⟩ := (h.2 j _ hj).2
  exact Option.some.inj (h1.symm.trans h2)
theorem x_newi (C : Cx p s m args c cc nL own E A) {n : Int32} {N : Nat} (hn : ¬ n < 0) (hN : n.toNatClampNeg = N) (hb : N * componentBytes .int ≤ 536870912) (hcells : cells + 1 ≤ R.cells) (hslots : slots + N ≤ R.slots) (hd : decode cc pc = .ok (.newarray .int, 2)) (k : ∀ q : Nat, Wd p l e R s m args below meth c E A nL (cells + 1) (slots + N) Q (w ++ [(q, .inl (E.2.1, N, .inl (fun _ => 0)))]) (pc + 2) lv (.ref q :: st)) : Wd p l e R s m args below meth c E A nL cells slots Q w pc lv (.int n :: st) := fun H locs ls hP hD hS hl => va_newa (atype := .int) (ty := .int) (a0 := (N, .inl (fun _ => 0))) C.1 C.2.1 (C.t kw_arr_int) rfl C.k hP hD hS C.2.2.2.2.2.2 (fun _ => rfl) hn hN hb hcells hslots hd (fun q cA H1 hK1 p1 d1 s1 => by
    have e : cA = E.2.1 := gT_uni (i := 3) (j := 0) (ty := .int) hK1 rfl rfl rfl
    subst e
    exact k q H1 locs ls p1 d1 s1 hl)
theorem x_newb (C : Cx p s m args c cc nL own E A) {n : Int32} {N : Nat} (hn : ¬ n < 0) (hN : n.toNatClampNeg = N) (hb : N * componentBytes .byte ≤ 536870912) (hcells : cells + 1 ≤ R.cells) (hslots : slots + N ≤ R.slots) (hd : decode cc pc = .ok (.newarray .byte, 2)) (k : ∀ q : Nat, Wd p l e R s m args below meth c E A nL (cells + 1) (slots + N) Q (w ++ [(q, .inl (E.2.2.1, N, .inl (fun _ => 0)))]) (pc + 2) lv (.ref q :: st)) : Wd p l e R s m args below meth c E A nL cells slots Q w pc lv (.int n :: st) := fun H locs ls hP hD hS hl => va_newa (atype := .byte) (ty := .byte) (a0 := (N, .inl (fun _ => 0))) C.1 C.2.1 (C.t kw_arr_byte) rfl C.k hP hD hS C.2.2.2.2.2.2 (fun _ => rfl) hn hN hb hcells hslots hd (fun q cA H1 hK1 p1 d1 s1 => by
    have e : cA = E.2.2.1 := gT_uni (i := 3) (j := 1) (ty := .byte) hK1 rfl rfl rfl
    subst e
    exact k q H1 locs ls p1 d1 s1 hl)
theorem x_newq (C : Cx p s m args c cc nL own E A) {n : Int32} {N index : Nat} (hcl : Cond.classLink own index RX0 ∈ lw_g) (hn : ¬ n < 0) (hN : n.toNatClampNeg = N) (hb : N * 4 ≤ 536870912) (hcells : cells + 1 ≤ R.cells) (hslots : slots + N ≤ R.slots) (hd : decode cc pc = .ok (.anewarray index, 3)) (k : ∀ q : Nat, Wd p l e R s m args below meth c E A nL (cells + 1) (slots + N) Q (w ++ [(q, .inl (E.2.2.2, N, .inr (.inr (.inr (.inr (fun _ => none))))))]) (pc + 3) lv (.ref q :: st)) : Wd p l e R s m args below meth c E A nL cells slots Q w pc lv (.int n :: st) := fun H locs ls hP hD hS hl => va_newq C.1 C.2.1 C.2.2.2.1 (C.t hcl) C.2.2.2.2.2.1.2.1 C.k hP hD hS C.2.2.2.2.2.2 hn hN hb hcells hslots hd (fun q cA H1 hK1 p1 d1 s1 => by
    have e : cA = E.2.2.2 := gT_uniQ (i := 3) (j := 2) (C := RX0) hK1 rfl rfl
    subst e
    exact k q H1 locs ls p1 d1 s1 hl)
end GN
def zR : Nat → Nat → Int32 := fun _ _ => 0
def iB : Nat → Nat → Int32 := rs (rs (rs zR 0 1 (-1)) 0 2 (-1)) 0 5 (-1)
set_option maxHeartbeats 4000000 in
set_option maxRecDepth 100000 in
theorem c_X2_init (l : Launch) (E : gE) (h0 : Nat)  : CtV l E yX2_init prog_4_method_1_code 1 none 1 12 4 32 [.ref h0] [(h0, .inr (2, [.null, .null, .null, .null, .int 0]))] (fun (u : Nat → Nat) => u 1 = h0) (fun u => [((u 1), .inr (2, [.ref (u 2), .ref (u 3), .ref (u 4), .ref (u 5), .int 0])), ((u 2), .inl (E.2.1, 8, .inl (fun _ => 0))), ((u 3), .inl (E.2.1, 8, .inl (fun _ => 0))), ((u 4), .inl (E.2.1, 8, .inl (fun _ => 0))), ((u 5), .inl (E.2.1, 8, .inl (fun _ => 0)))]) := by
  refine CtV.start (by decide) (Nat.le_of_ble_eq_true rfl) ?_
  intro p_ e_ s_ m_ below_ meth_ c_ A_ C hr hlocks hnm
  refine Wd.cast (lv1 := [(0, .ref h0)]) rfl rfl rfl ?_
  refine x_aload_n C dX2_init_0 0 rfl ?_
  refine x_obj C kw_ml_X2_3 (Nat.le_of_ble_eq_true rfl) (Nat.le_of_ble_eq_true rfl) dX2_init_1 ?_
  refine x_aload_n C dX2_init_4 0 rfl ?_
  refine x_bipush (v := 8) C dX2_init_5 (by decide) ?_
  refine x_newi (N := 8) C (by decide) (by decide) (by decide) (Nat.le_of_ble_eq_true rfl) (Nat.le_of_ble_eq_true rfl) dX2_init_7 (fun q_1 => ?_)
  refine Wd.cast (w1 := [(h0, .inr (2, [.null, .null, .null, .null, .int 0])), (q_1, .inl (E.2.1, 8, .inl (fun _ => 0)))]) (lv1 := [(0, .ref h0)]) rfl rfl rfl ?_
  refine x_putF (ref := "RomSearchBus$Devices") C hnm inX2 tyX2 tyX2_ok nmX2 0 0 rfl rfl (by decide) kw_fl_X2_11 rfl rfl rfl rfl rfl (Nat.le_of_ble_eq_true rfl) [(h0, .inr (2, [.ref q_1, .null, .null, .null, .int 0])), (q_1, .inl (E.2.1, 8, .inl (fun _ => 0)))] rfl dX2_init_9 ?_
  refine x_aload_n C dX2_init_12 0 rfl ?_
  refine x_bipush (v := 8) C dX2_init_13 (by decide) ?_
  refine x_newi (N := 8) C (by decide) (by decide) (by decide) (Nat.le_of_ble_eq_true rfl) (Nat.le_of_ble_eq_true rfl) dX2_init_15 (fun q_2 => ?_)
  refine Wd.cast (w1 := [(h0, .inr (2, [.ref q_1, .null, .null, .null, .int 0])), (q_1, .inl (E.2.1, 8, .inl (fun _ => 0))), (q_2, .inl (E.2.1, 8, .inl (fun _ => 0)))]) (lv1 := [(0, .ref h0)]) rfl rfl rfl ?_
  refine x_putF (ref := "RomSearchBus$Devices") C hnm inX2 tyX2 tyX2_ok nmX2 0 1 rfl rfl (by decide) kw_fl_X2_15 rfl rfl rfl rfl rfl (Nat.le_of_ble_eq_true rfl) [(h0, .inr (2, [.ref q_1, .ref q_2, .null, .null, .int 0])), (q_1, .inl (E.2.1, 8, .inl (fun _ => 0))), (q_2, .inl (E.2.1, 8, .inl (fun _ => 0)))] rfl dX2_init_17 ?_
  refine x_aload_n C dX2_init_20 0 rfl ?_
  refine x_bipush (v := 8) C dX2_init_21 (by decide) ?_
  refine x_newi (N := 8) C (by decide) (by decide) (by decide) (Nat.le_of_ble_eq_true rfl) (Nat.le_of_ble_eq_true rfl) dX2_init_23 (fun q_3 => ?_)
  refine Wd.cast (w1 := [(h0, .inr (2, [.ref q_1, .ref q_2, .null, .null, .int 0])), (q_1, .inl (E.2.1, 8, .inl (fun _ => 0))), (q_2, .inl (E.2.1, 8, .inl (fun _ => 0))), (q_3, .inl (E.2.1, 8, .inl (fun _ => 0)))]) (lv1 := [(0, .ref h0)]) rfl rfl rfl ?_
  refine x_putF (ref := "RomSearchBus$Devices") C hnm inX2 tyX2 tyX2_ok nmX2 0 2 rfl rfl (by decide) kw_fl_X2_18 rfl rfl rfl rfl rfl (Nat.le_of_ble_eq_true rfl) [(h0, .inr (2, [.ref q_1, .ref q_2, .ref q_3, .null, .int 0])), (q_1, .inl (E.2.1, 8, .inl (fun _ => 0))), (q_2, .inl (E.2.1, 8, .inl (fun _ => 0))), (q_3, .inl (E.2.1, 8, .inl (fun _ => 0)))] rfl dX2_init_25 ?_
  refine x_aload_n C dX2_init_28 0 rfl ?_
  refine x_bipush (v := 8) C dX2_init_29 (by decide) ?_
  refine x_newi (N := 8) C (by decide) (by decide) (by decide) (Nat.le_of_ble_eq_true rfl) (Nat.le_of_ble_eq_true rfl) dX2_init_31 (fun q_4 => ?_)
  refine Wd.cast (w1 := [(h0, .inr (2, [.ref q_1, .ref q_2, .ref q_3, .null, .int 0])), (q_1, .inl (E.2.1, 8, .inl (fun _ => 0))), (q_2, .inl (E.2.1, 8, .inl (fun _ => 0))), (q_3, .inl (E.2.1, 8, .inl (fun _ => 0))), (q_4, .inl (E.2.1, 8, .inl (fun _ => 0)))]) (lv1 := [(0, .ref h0)]) rfl rfl rfl ?_
  refine x_putF (ref := "RomSearchBus$Devices") C hnm inX2 tyX2 tyX2_ok nmX2 0 3 rfl rfl (by decide) kw_fl_X2_21 rfl rfl rfl rfl rfl (Nat.le_of_ble_eq_true rfl) [(h0, .inr (2, [.ref q_1, .ref q_2, .ref q_3, .ref q_4, .int 0])), (q_1, .inl (E.2.1, 8, .inl (fun _ => 0))), (q_2, .inl (E.2.1, 8, .inl (fun _ => 0))), (q_3, .inl (E.2.1, 8, .inl (fun _ => 0))), (q_4, .inl (E.2.1, 8, .inl (fun _ => 0)))] rfl dX2_init_33 ?_
  refine x_aload_n C dX2_init_36 0 rfl ?_
  refine x_iconst (v := 0) C dX2_init_37 (by decide) ?_
  refine x_put (ref := "RomSearchBus$Devices") C inX2 tyX2 tyX2_ok nmX2 0 4 rfl rfl (by decide) kw_fl_X2_24 rfl rfl rfl rfl (Nat.le_of_ble_eq_true rfl) [(h0, .inr (2, [.ref q_1, .ref q_2, .ref q_3, .ref q_4, .int 0])), (q_1, .inl (E.2.1, 8, .inl (fun _ => 0))), (q_2, .inl (E.2.1, 8, .inl (fun _ => 0))), (q_3, .inl (E.2.1, 8, .inl (fun _ => 0))), (q_4, .inl (E.2.1, 8, .inl (fun _ => 0)))] rfl dX2_init_38 ?_
  exact x_vret C hr hlocks (fun k => if k = 1 then h0 else if k = 2 then q_1 else if k = 3 then q_2 else if k = 4 then q_3 else q_4) rfl (gEq.rf _) dX2_init_41
set_option maxHeartbeats 4000000 in
set_option maxRecDepth 100000 in
theorem c_X3_init (l : Launch) (E : gE) (h0 : Nat)  : CtV l E yX3_init prog_5_method_1_code 1 none 1 12 1 6 [.ref h0] [(h0, .inr (3, [.null, .int 0]))] (fun (u : Nat → Nat) => u 6 = h0) (fun u => [((u 6), .inr (3, [.ref (u 7), .int 0])), ((u 7), .inl (E.2.1, 6, .inl (fun _ => 0)))]) := by
  refine CtV.start (by decide) (Nat.le_of_ble_eq_true rfl) ?_
  intro p_ e_ s_ m_ below_ meth_ c_ A_ C hr hlocks hnm
  refine Wd.cast (lv1 := [(0, .ref h0)]) rfl rfl rfl ?_
  refine x_aload_n C dX3_init_0 0 rfl ?_
  refine x_obj C kw_ml_X3_1 (Nat.le_of_ble_eq_true rfl) (Nat.le_of_ble_eq_true rfl) dX3_init_1 ?_
  refine x_aload_n C dX3_init_4 0 rfl ?_
  refine x_bipush (v := 6) C dX3_init_5 (by decide) ?_
  refine x_newi (N := 6) C (by decide) (by decide) (by decide) (Nat.le_of_ble_eq_true rfl) (Nat.le_of_ble_eq_true rfl) dX3_init_7 (fun q_1 => ?_)
  refine Wd.cast (w1 := [(h0, .inr (3, [.null, .int 0])), (q_1, .inl (E.2.1, 6, .inl (fun _ => 0)))]) (lv1 := [(0, .ref h0)]) rfl rfl rfl ?_
  refine x_putF (ref := "RomSearchBus$History") C hnm inX3 tyX3 tyX3_ok nmX3 0 0 rfl rfl (by decide) kw_fl_X3_9 rfl rfl rfl rfl rfl (Nat.le_of_ble_eq_true rfl) [(h0, .inr (3, [.ref q_1, .int 0])), (q_1, .inl (E.2.1, 6, .inl (fun _ => 0)))] rfl dX3_init_9 ?_
  refine x_aload_n C dX3_init_12 0 rfl ?_
  refine x_iconst (v := 0) C dX3_init_13 (by decide) ?_
  refine x_put (ref := "RomSearchBus$History") C inX3 tyX3 tyX3_ok nmX3 0 1 rfl rfl (by decide) kw_fl_X3_13 rfl rfl rfl rfl (Nat.le_of_ble_eq_true rfl) [(h0, .inr (3, [.ref q_1, .int 0])), (q_1, .inl (E.2.1, 6, .inl (fun _ => 0)))] rfl dX3_init_14 ?_
  exact x_vret C hr hlocks (fun k => if k = 6 then h0 else q_1) rfl (gEq.rf _) dX3_init_17
set_option maxHeartbeats 4000000 in
set_option maxRecDepth 100000 in
theorem c_X1_init (l : Launch) (E : gE) (h0 : Nat)  : CtV l E yX1_init prog_3_method_1_code 1 none 1 12 3 360 [.ref h0] [(h0, .inr (1, [.null, .null, .null, .int 0, .int 0, .int 0]))] (fun (u : Nat → Nat) => u 0 = h0) (fun u => [((u 0), .inr (1, [.ref (u 1), .ref (u 2), .ref (u 3), .int 0, .int 0, .int 0])), ((u 1), .inl (E.2.2.1, 120, .inl (fun _ => 0))), ((u 2), .inl (E.2.2.1, 60, .inl (fun _ => 0))), ((u 3), .inl (E.2.1, 180, .inl (fun _ => 0)))]) := by
  refine CtV.start (by decide) (Nat.le_of_ble_eq_true rfl) ?_
  intro p_ e_ s_ m_ below_ meth_ c_ A_ C hr hlocks hnm
  refine Wd.cast (lv1 := [(0, .ref h0)]) rfl rfl rfl ?_
  refine x_aload_n C dX1_init_0 0 rfl ?_
  refine x_obj C kw_ml_X1_5 (Nat.le_of_ble_eq_true rfl) (Nat.le_of_ble_eq_true rfl) dX1_init_1 ?_
  refine x_aload_n C dX1_init_4 0 rfl ?_
  refine x_bipush (v := 120) C dX1_init_5 (by decide) ?_
  refine x_newb (N := 120) C (by decide) (by decide) (by decide) (Nat.le_of_ble_eq_true rfl) (Nat.le_of_ble_eq_true rfl) dX1_init_7 (fun q_1 => ?_)
  refine Wd.cast (w1 := [(h0, .inr (1, [.null, .null, .null, .int 0, .int 0, .int 0])), (q_1, .inl (E.2.2.1, 120, .inl (fun _ => 0)))]) (lv1 := [(0, .ref h0)]) rfl rfl rfl ?_
  refine x_putF (ref := "RomSearchBus$CommandText") C hnm inX1 tyX1 tyX1_ok nmX1 0 0 rfl rfl (by decide) kw_fl_X1_11 rfl rfl rfl rfl rfl (Nat.le_of_ble_eq_true rfl) [(h0, .inr (1, [.ref q_1, .null, .null, .int 0, .int 0, .int 0])), (q_1, .inl (E.2.2.1, 120, .inl (fun _ => 0)))] rfl dX1_init_9 ?_
  refine x_aload_n C dX1_init_12 0 rfl ?_
  refine x_bipush (v := 60) C dX1_init_13 (by decide) ?_
  refine x_newb (N := 60) C (by decide) (by decide) (by decide) (Nat.le_of_ble_eq_true rfl) (Nat.le_of_ble_eq_true rfl) dX1_init_15 (fun q_2 => ?_)
  refine Wd.cast (w1 := [(h0, .inr (1, [.ref q_1, .null, .null, .int 0, .int 0, .int 0])), (q_1, .inl (E.2.2.1, 120, .inl (fun _ => 0))), (q_2, .inl (E.2.2.1, 60, .inl (fun _ => 0)))]) (lv1 := [(0, .ref h0)]) rfl rfl rfl ?_
  refine x_putF (ref := "RomSearchBus$CommandText") C hnm inX1 tyX1 tyX1_ok nmX1 0 1 rfl rfl (by decide) kw_fl_X1_15 rfl rfl rfl rfl rfl (Nat.le_of_ble_eq_true rfl) [(h0, .inr (1, [.ref q_1, .ref q_2, .null, .int 0, .int 0, .int 0])), (q_1, .inl (E.2.2.1, 120, .inl (fun _ => 0))), (q_2, .inl (E.2.2.1, 60, .inl (fun _ => 0)))] rfl dX1_init_17 ?_
  refine x_aload_n C dX1_init_20 0 rfl ?_
  refine x_sipush (v := 180) C dX1_init_21 (by decide) ?_
  refine x_newi (N := 180) C (by decide) (by decide) (by decide) (Nat.le_of_ble_eq_true rfl) (Nat.le_of_ble_eq_true rfl) dX1_init_24 (fun q_3 => ?_)
  refine Wd.cast (w1 := [(h0, .inr (1, [.ref q_1, .ref q_2, .null, .int 0, .int 0, .int 0])), (q_1, .inl (E.2.2.1, 120, .inl (fun _ => 0))), (q_2, .inl (E.2.2.1, 60, .inl (fun _ => 0))), (q_3, .inl (E.2.1, 180, .inl (fun _ => 0)))]) (lv1 := [(0, .ref h0)]) rfl rfl rfl ?_
  refine x_putF (ref := "RomSearchBus$CommandText") C hnm inX1 tyX1 tyX1_ok nmX1 0 2 rfl rfl (by decide) kw_fl_X1_18 rfl rfl rfl rfl rfl (Nat.le_of_ble_eq_true rfl) [(h0, .inr (1, [.ref q_1, .ref q_2, .ref q_3, .int 0, .int 0, .int 0])), (q_1, .inl (E.2.2.1, 120, .inl (fun _ => 0))), (q_2, .inl (E.2.2.1, 60, .inl (fun _ => 0))), (q_3, .inl (E.2.1, 180, .inl (fun _ => 0)))] rfl dX1_init_26 ?_
  refine x_aload_n C dX1_init_29 0 rfl ?_
  refine x_iconst (v := 0) C dX1_init_30 (by decide) ?_
  refine x_put (ref := "RomSearchBus$CommandText") C inX1 tyX1 tyX1_ok nmX1 0 3 rfl rfl (by decide) kw_fl_X1_22 rfl rfl rfl rfl (Nat.le_of_ble_eq_true rfl) [(h0, .inr (1, [.ref q_1, .ref q_2, .ref q_3, .int 0, .int 0, .int 0])), (q_1, .inl (E.2.2.1, 120, .inl (fun _ => 0))), (q_2, .inl (E.2.2.1, 60, .inl (fun _ => 0))), (q_3, .inl (E.2.1, 180, .inl (fun _ => 0)))] rfl dX1_init_31 ?_
  refine x_aload_n C dX1_init_34 0 rfl ?_
  refine x_iconst (v := 0) C dX1_init_35 (by decide) ?_
  refine x_put (ref := "RomSearchBus$CommandText") C inX1 tyX1 tyX1_ok nmX1 0 4 rfl rfl (by decide) kw_fl_X1_26 rfl rfl rfl rfl (Nat.le_of_ble_eq_true rfl) [(h0, .inr (1, [.ref q_1, .ref q_2, .ref q_3, .int 0, .int 0, .int 0])), (q_1, .inl (E.2.2.1, 120, .inl (fun _ => 0))), (q_2, .inl (E.2.2.1, 60, .inl (fun _ => 0))), (q_3, .inl (E.2.1, 180, .inl (fun _ => 0)))] rfl dX1_init_36 ?_
  refine x_aload_n C dX1_init_39 0 rfl ?_
  refine x_iconst (v := 0) C dX1_init_40 (by decide) ?_
  refine x_put (ref := "RomSearchBus$CommandText") C inX1 tyX1 tyX1_ok nmX1 0 5 rfl rfl (by decide) kw_fl_X1_29 rfl rfl rfl rfl (Nat.le_of_ble_eq_true rfl) [(h0, .inr (1, [.ref q_1, .ref q_2, .ref q_3, .int 0, .int 0, .int 0])), (q_1, .inl (E.2.2.1, 120, .inl (fun _ => 0))), (q_2, .inl (E.2.2.1, 60, .inl (fun _ => 0))), (q_3, .inl (E.2.1, 180, .inl (fun _ => 0)))] rfl dX1_init_41 ?_
  exact x_vret C hr hlocks (fun k => if k = 0 then h0 else if k = 1 then q_1 else if k = 2 then q_2 else q_3) rfl (gEq.rf _) dX1_init_44
set_option maxHeartbeats 4000000 in
set_option maxRecDepth 100000 in
theorem c_X0_init (l : Launch) (E : gE) (h0 : Nat)  : CtV l E yX0_init prog_2_method_1_code 1 none 2 32 7 45 [.ref h0] [(h0, .inr (0, [.null, .null, .int 0, .int 0, .int 0, .int 0, .int 0, .int 0, .int 0]))] (fun (u : Nat → Nat) => u 0 = h0) (fun u => [((u 0), .inr (0, [.ref (u 1), .ref (u 6), .int 0, .int (-1), .int (-1), .int 0, .int 0, .int (-1), .int 0])), ((u 1), .inr (2, [.ref (u 2), .ref (u 3), .ref (u 4), .ref (u 5), .int 0])), ((u 2), .inl (E.2.1, 8, .inl (fun _ => 0))), ((u 3), .inl (E.2.1, 8, .inl (fun _ => 0))), ((u 4), .inl (E.2.1, 8, .inl (fun _ => 0))), ((u 5), .inl (E.2.1, 8, .inl (fun _ => 0))), ((u 6), .inr (3, [.ref (u 7), .int 0])), ((u 7), .inl (E.2.1, 6, .inl (fun _ => 0)))]) := by
  refine CtV.start (by decide) (Nat.le_of_ble_eq_true rfl) ?_
  intro p_ e_ s_ m_ below_ meth_ c_ A_ C hr hlocks hnm
  refine Wd.cast (lv1 := [(0, .ref h0)]) rfl rfl rfl ?_
  refine x_aload_n C dX0_init_0 0 rfl ?_
  refine x_obj C kw_ml_X0_3 (Nat.le_of_ble_eq_true rfl) (Nat.le_of_ble_eq_true rfl) dX0_init_1 ?_
  refine x_aload_n C dX0_init_4 0 rfl ?_
  refine x_new (ci := 2) (fs := [.null, .null, .null, .null, .int 0]) C inX2 tyX2 tyX2_ok kw_cl_X0_9 kw_inst_X2 kw_ini_X2 rfl (fun j hj => by rcases (show j = 0 ∨ j = 1 ∨ j = 2 ∨ j = 3 ∨ j = 4 by omega) with rfl | rfl | rfl | rfl | rfl <;> rfl) (Nat.le_of_ble_eq_true rfl) (Nat.le_of_ble_eq_true rfl) dX0_init_5 (fun q_1 => ?_)
  refine Wd.cast (w1 := [(h0, .inr (0, [.null, .null, .int 0, .int 0, .int 0, .int 0, .int 0, .int 0, .int 0])), (q_1, .inr (2, [.null, .null, .null, .null, .int 0]))]) (lv1 := [(0, .ref h0)]) rfl rfl rfl ?_
  refine x_dup C dX0_init_8 rfl ?_
  refine x_callC (wc := [(q_1, .inr (2, [.null, .null, .null, .null, .int 0]))]) (wr := [(h0, .inr (0, [.null, .null, .int 0, .int 0, .int 0, .int 0, .int 0, .int 0, .int 0]))]) (As := []) (rest := [.ref q_1, .ref h0]) C (c_X2_init l E q_1 ) (gWI C kw_ml_X0_11 kw_im_X2_init kw_ini_X2 kw_code_X2_init rfl ga_X2_init ⟨Nat.le_of_ble_eq_true rfl, Nat.le_of_ble_eq_true rfl⟩) [1] [0] [0, 1, 2, 3, 4, 5] rfl rfl rfl rfl (by decide) (fun u_2 => [(h0, .inr (0, [.null, .null, .int 0, .int 0, .int 0, .int 0, .int 0, .int 0, .int 0])), ((u_2 1), .inr (2, [.ref (u_2 2), .ref (u_2 3), .ref (u_2 4), .ref (u_2 5), .int 0])), ((u_2 2), .inl (E.2.1, 8, .inl (fun _ => 0))), ((u_2 3), .inl (E.2.1, 8, .inl (fun _ => 0))), ((u_2 4), .inl (E.2.1, 8, .inl (fun _ => 0))), ((u_2 5), .inl (E.2.1, 8, .inl (fun _ => 0)))]) rfl (fun _ => rfl) rfl (Nat.le_of_ble_eq_true rfl) ⟨Nat.le_of_ble_eq_true rfl, Nat.le_of_ble_eq_true rfl⟩ rfl dX0_init_9 (fun u_2 e_4 => ?_)
  subst e_4
  refine Wd.cast (w1 := [(h0, .inr (0, [.null, .null, .int 0, .int 0, .int 0, .int 0, .int 0, .int 0, .int 0])), ((u_2 1), .inr (2, [.ref (u_2 2), .ref (u_2 3), .ref (u_2 4), .ref (u_2 5), .int 0])), ((u_2 2), .inl (E.2.1, 8, .inl (fun _ => 0))), ((u_2 3), .inl (E.2.1, 8, .inl (fun _ => 0))), ((u_2 4), .inl (E.2.1, 8, .inl (fun _ => 0))), ((u_2 5), .inl (E.2.1, 8, .inl (fun _ => 0)))]) (lv1 := [(0, .ref h0)]) (st1 := [.ref (u_2 1), .ref h0]) rfl rfl rfl ?_
  refine x_putF (ref := "RomSearchBus$BusState") C hnm inX0 tyX0 tyX0_ok nmX0 0 0 rfl rfl (by decide) kw_fl_X0_12 rfl rfl rfl rfl rfl (Nat.le_of_ble_eq_true rfl) [(h0, .inr (0, [.ref (u_2 1), .null, .int 0, .int 0, .int 0, .int 0, .int 0, .int 0, .int 0])), ((u_2 1), .inr (2, [.ref (u_2 2), .ref (u_2 3), .ref (u_2 4), .ref (u_2 5), .int 0])), ((u_2 2), .inl (E.2.1, 8, .inl (fun _ => 0))), ((u_2 3), .inl (E.2.1, 8, .inl (fun _ => 0))), ((u_2 4), .inl (E.2.1, 8, .inl (fun _ => 0))), ((u_2 5), .inl (E.2.1, 8, .inl (fun _ => 0)))] rfl dX0_init_12 ?_
  refine x_aload_n C dX0_init_15 0 rfl ?_
  refine x_new (ci := 3) (fs := [.null, .int 0]) C inX3 tyX3 tyX3_ok kw_cl_X0_18 kw_inst_X3 kw_ini_X3 rfl (fun j hj => by rcases (show j = 0 ∨ j = 1 by omega) with rfl | rfl <;> rfl) (Nat.le_of_ble_eq_true rfl) (Nat.le_of_ble_eq_true rfl) dX0_init_16 (fun q_5 => ?_)
  refine Wd.cast (w1 := [(h0, .inr (0, [.ref (u_2 1), .null, .int 0, .int 0, .int 0, .int 0, .int 0, .int 0, .int 0])), ((u_2 1), .inr (2, [.ref (u_2 2), .ref (u_2 3), .ref (u_2 4), .ref (u_2 5), .int 0])), ((u_2 2), .inl (E.2.1, 8, .inl (fun _ => 0))), ((u_2 3), .inl (E.2.1, 8, .inl (fun _ => 0))), ((u_2 4), .inl (E.2.1, 8, .inl (fun _ => 0))), ((u_2 5), .inl (E.2.1, 8, .inl (fun _ => 0))), (q_5, .inr (3, [.null, .int 0]))]) (lv1 := [(0, .ref h0)]) rfl rfl rfl ?_
  refine x_dup C dX0_init_19 rfl ?_
  refine x_callC (wc := [(q_5, .inr (3, [.null, .int 0]))]) (wr := [(h0, .inr (0, [.ref (u_2 1), .null, .int 0, .int 0, .int 0, .int 0, .int 0, .int 0, .int 0])), ((u_2 1), .inr (2, [.ref (u_2 2), .ref (u_2 3), .ref (u_2 4), .ref (u_2 5), .int 0])), ((u_2 2), .inl (E.2.1, 8, .inl (fun _ => 0))), ((u_2 3), .inl (E.2.1, 8, .inl (fun _ => 0))), ((u_2 4), .inl (E.2.1, 8, .inl (fun _ => 0))), ((u_2 5), .inl (E.2.1, 8, .inl (fun _ => 0)))]) (As := []) (rest := [.ref q_5, .ref h0]) C (c_X3_init l E q_5 ) (gWI C kw_ml_X0_20 kw_im_X3_init kw_ini_X3 kw_code_X3_init rfl ga_X3_init ⟨Nat.le_of_ble_eq_true rfl, Nat.le_of_ble_eq_true rfl⟩) [6] [0, 1, 2, 3, 4, 5] [0, 1, 2, 3, 4, 5, 6, 7] rfl rfl rfl rfl (by decide) (fun u_6 => [(h0, .inr (0, [.ref (u_2 1), .null, .int 0, .int 0, .int 0, .int 0, .int 0, .int 0, .int 0])), ((u_2 1), .inr (2, [.ref (u_2 2), .ref (u_2 3), .ref (u_2 4), .ref (u_2 5), .int 0])), ((u_2 2), .inl (E.2.1, 8, .inl (fun _ => 0))), ((u_2 3), .inl (E.2.1, 8, .inl (fun _ => 0))), ((u_2 4), .inl (E.2.1, 8, .inl (fun _ => 0))), ((u_2 5), .inl (E.2.1, 8, .inl (fun _ => 0))), ((u_6 6), .inr (3, [.ref (u_6 7), .int 0])), ((u_6 7), .inl (E.2.1, 6, .inl (fun _ => 0)))]) rfl (fun _ => rfl) rfl (Nat.le_of_ble_eq_true rfl) ⟨Nat.le_of_ble_eq_true rfl, Nat.le_of_ble_eq_true rfl⟩ rfl dX0_init_20 (fun u_6 e_8 => ?_)
  subst e_8
  refine Wd.cast (w1 := [(h0, .inr (0, [.ref (u_2 1), .null, .int 0, .int 0, .int 0, .int 0, .int 0, .int 0, .int 0])), ((u_2 1), .inr (2, [.ref (u_2 2), .ref (u_2 3), .ref (u_2 4), .ref (u_2 5), .int 0])), ((u_2 2), .inl (E.2.1, 8, .inl (fun _ => 0))), ((u_2 3), .inl (E.2.1, 8, .inl (fun _ => 0))), ((u_2 4), .inl (E.2.1, 8, .inl (fun _ => 0))), ((u_2 5), .inl (E.2.1, 8, .inl (fun _ => 0))), ((u_6 6), .inr (3, [.ref (u_6 7), .int 0])), ((u_6 7), .inl (E.2.1, 6, .inl (fun _ => 0)))]) (lv1 := [(0, .ref h0)]) (st1 := [.ref (u_6 6), .ref h0]) rfl rfl rfl ?_
  refine x_putF (ref := "RomSearchBus$BusState") C hnm inX0 tyX0 tyX0_ok nmX0 0 1 rfl rfl (by decide) kw_fl_X0_21 rfl rfl rfl rfl rfl (Nat.le_of_ble_eq_true rfl) [(h0, .inr (0, [.ref (u_2 1), .ref (u_6 6), .int 0, .int 0, .int 0, .int 0, .int 0, .int 0, .int 0])), ((u_2 1), .inr (2, [.ref (u_2 2), .ref (u_2 3), .ref (u_2 4), .ref (u_2 5), .int 0])), ((u_2 2), .inl (E.2.1, 8, .inl (fun _ => 0))), ((u_2 3), .inl (E.2.1, 8, .inl (fun _ => 0))), ((u_2 4), .inl (E.2.1, 8, .inl (fun _ => 0))), ((u_2 5), .inl (E.2.1, 8, .inl (fun _ => 0))), ((u_6 6), .inr (3, [.ref (u_6 7), .int 0])), ((u_6 7), .inl (E.2.1, 6, .inl (fun _ => 0)))] rfl dX0_init_23 ?_
  refine x_aload_n C dX0_init_26 0 rfl ?_
  refine x_iconst (v := 0) C dX0_init_27 (by decide) ?_
  refine x_put (ref := "RomSearchBus$BusState") C inX0 tyX0 tyX0_ok nmX0 0 2 rfl rfl (by decide) kw_fl_X0_25 rfl rfl rfl rfl (Nat.le_of_ble_eq_true rfl) [(h0, .inr (0, [.ref (u_2 1), .ref (u_6 6), .int 0, .int 0, .int 0, .int 0, .int 0, .int 0, .int 0])), ((u_2 1), .inr (2, [.ref (u_2 2), .ref (u_2 3), .ref (u_2 4), .ref (u_2 5), .int 0])), ((u_2 2), .inl (E.2.1, 8, .inl (fun _ => 0))), ((u_2 3), .inl (E.2.1, 8, .inl (fun _ => 0))), ((u_2 4), .inl (E.2.1, 8, .inl (fun _ => 0))), ((u_2 5), .inl (E.2.1, 8, .inl (fun _ => 0))), ((u_6 6), .inr (3, [.ref (u_6 7), .int 0])), ((u_6 7), .inl (E.2.1, 6, .inl (fun _ => 0)))] rfl dX0_init_28 ?_
  refine x_aload_n C dX0_init_31 0 rfl ?_
  refine x_iconst (v := (-1)) C dX0_init_32 (by decide) ?_
  refine x_put (ref := "RomSearchBus$BusState") C inX0 tyX0 tyX0_ok nmX0 0 3 rfl rfl (by decide) kw_fl_X0_29 rfl rfl rfl rfl (Nat.le_of_ble_eq_true rfl) [(h0, .inr (0, [.ref (u_2 1), .ref (u_6 6), .int 0, .int (-1), .int 0, .int 0, .int 0, .int 0, .int 0])), ((u_2 1), .inr (2, [.ref (u_2 2), .ref (u_2 3), .ref (u_2 4), .ref (u_2 5), .int 0])), ((u_2 2), .inl (E.2.1, 8, .inl (fun _ => 0))), ((u_2 3), .inl (E.2.1, 8, .inl (fun _ => 0))), ((u_2 4), .inl (E.2.1, 8, .inl (fun _ => 0))), ((u_2 5), .inl (E.2.1, 8, .inl (fun _ => 0))), ((u_6 6), .inr (3, [.ref (u_6 7), .int 0])), ((u_6 7), .inl (E.2.1, 6, .inl (fun _ => 0)))] rfl dX0_init_33 ?_
  refine x_aload_n C dX0_init_36 0 rfl ?_
  refine x_iconst (v := (-1)) C dX0_init_37 (by decide) ?_
  refine x_put (ref := "RomSearchBus$BusState") C inX0 tyX0 tyX0_ok nmX0 0 4 rfl rfl (by decide) kw_fl_X0_32 rfl rfl rfl rfl (Nat.le_of_ble_eq_true rfl) [(h0, .inr (0, [.ref (u_2 1), .ref (u_6 6), .int 0, .int (-1), .int (-1), .int 0, .int 0, .int 0, .int 0])), ((u_2 1), .inr (2, [.ref (u_2 2), .ref (u_2 3), .ref (u_2 4), .ref (u_2 5), .int 0])), ((u_2 2), .inl (E.2.1, 8, .inl (fun _ => 0))), ((u_2 3), .inl (E.2.1, 8, .inl (fun _ => 0))), ((u_2 4), .inl (E.2.1, 8, .inl (fun _ => 0))), ((u_2 5), .inl (E.2.1, 8, .inl (fun _ => 0))), ((u_6 6), .inr (3, [.ref (u_6 7), .int 0])), ((u_6 7), .inl (E.2.1, 6, .inl (fun _ => 0)))] rfl dX0_init_38 ?_
  refine x_aload_n C dX0_init_41 0 rfl ?_
  refine x_iconst (v := 0) C dX0_init_42 (by decide) ?_
  refine x_put (ref := "RomSearchBus$BusState") C inX0 tyX0 tyX0_ok nmX0 0 5 rfl rfl (by decide) kw_fl_X0_35 rfl rfl rfl rfl (Nat.le_of_ble_eq_true rfl) [(h0, .inr (0, [.ref (u_2 1), .ref (u_6 6), .int 0, .int (-1), .int (-1), .int 0, .int 0, .int 0, .int 0])), ((u_2 1), .inr (2, [.ref (u_2 2), .ref (u_2 3), .ref (u_2 4), .ref (u_2 5), .int 0])), ((u_2 2), .inl (E.2.1, 8, .inl (fun _ => 0))), ((u_2 3), .inl (E.2.1, 8, .inl (fun _ => 0))), ((u_2 4), .inl (E.2.1, 8, .inl (fun _ => 0))), ((u_2 5), .inl (E.2.1, 8, .inl (fun _ => 0))), ((u_6 6), .inr (3, [.ref (u_6 7), .int 0])), ((u_6 7), .inl (E.2.1, 6, .inl (fun _ => 0)))] rfl dX0_init_43 ?_
  refine x_aload_n C dX0_init_46 0 rfl ?_
  refine x_iconst (v := 0) C dX0_init_47 (by decide) ?_
  refine x_put (ref := "RomSearchBus$BusState") C inX0 tyX0 tyX0_ok nmX0 0 6 rfl rfl (by decide) kw_fl_X0_39 rfl rfl rfl rfl (Nat.le_of_ble_eq_true rfl) [(h0, .inr (0, [.ref (u_2 1), .ref (u_6 6), .int 0, .int (-1), .int (-1), .int 0, .int 0, .int 0, .int 0])), ((u_2 1), .inr (2, [.ref (u_2 2), .ref (u_2 3), .ref (u_2 4), .ref (u_2 5), .int 0])), ((u_2 2), .inl (E.2.1, 8, .inl (fun _ => 0))), ((u_2 3), .inl (E.2.1, 8, .inl (fun _ => 0))), ((u_2 4), .inl (E.2.1, 8, .inl (fun _ => 0))), ((u_2 5), .inl (E.2.1, 8, .inl (fun _ => 0))), ((u_6 6), .inr (3, [.ref (u_6 7), .int 0])), ((u_6 7), .inl (E.2.1, 6, .inl (fun _ => 0)))] rfl dX0_init_48 ?_
  refine x_aload_n C dX0_init_51 0 rfl ?_
  refine x_iconst (v := (-1)) C dX0_init_52 (by decide) ?_
  refine x_put (ref := "RomSearchBus$BusState") C inX0 tyX0 tyX0_ok nmX0 0 7 rfl rfl (by decide) kw_fl_X0_42 rfl rfl rfl rfl (Nat.le_of_ble_eq_true rfl) [(h0, .inr (0, [.ref (u_2 1), .ref (u_6 6), .int 0, .int (-1), .int (-1), .int 0, .int 0, .int (-1), .int 0])), ((u_2 1), .inr (2, [.ref (u_2 2), .ref (u_2 3), .ref (u_2 4), .ref (u_2 5), .int 0])), ((u_2 2), .inl (E.2.1, 8, .inl (fun _ => 0))), ((u_2 3), .inl (E.2.1, 8, .inl (fun _ => 0))), ((u_2 4), .inl (E.2.1, 8, .inl (fun _ => 0))), ((u_2 5), .inl (E.2.1, 8, .inl (fun _ => 0))), ((u_6 6), .inr (3, [.ref (u_6 7), .int 0])), ((u_6 7), .inl (E.2.1, 6, .inl (fun _ => 0)))] rfl dX0_init_53 ?_
  refine x_aload_n C dX0_init_56 0 rfl ?_
  refine x_iconst (v := 0) C dX0_init_57 (by decide) ?_
  refine x_put (ref := "RomSearchBus$BusState") C inX0 tyX0 tyX0_ok nmX0 0 8 rfl rfl (by decide) kw_fl_X0_45 rfl rfl rfl rfl (Nat.le_of_ble_eq_true rfl) [(h0, .inr (0, [.ref (u_2 1), .ref (u_6 6), .int 0, .int (-1), .int (-1), .int 0, .int 0, .int (-1), .int 0])), ((u_2 1), .inr (2, [.ref (u_2 2), .ref (u_2 3), .ref (u_2 4), .ref (u_2 5), .int 0])), ((u_2 2), .inl (E.2.1, 8, .inl (fun _ => 0))), ((u_2 3), .inl (E.2.1, 8, .inl (fun _ => 0))), ((u_2 4), .inl (E.2.1, 8, .inl (fun _ => 0))), ((u_2 5), .inl (E.2.1, 8, .inl (fun _ => 0))), ((u_6 6), .inr (3, [.ref (u_6 7), .int 0])), ((u_6 7), .inl (E.2.1, 6, .inl (fun _ => 0)))] rfl dX0_init_58 ?_
  exact x_vret C hr hlocks (fun k => if k = 0 then h0 else if k ≤ 5 then u_2 k else u_6 k) rfl (gEq.rf _) dX0_init_61
