set_option maxHeartbeats 4000000 in
set_option maxRecDepth 100000 in
theorem c_X6_init (l : Launch) (E : gE) (h0 : Nat)  : CtV l E yX6_init prog_8_method_1_code 1 none 1 12 7 697 [.ref h0] [(h0, .inr (6, [.null, .null, .null, .int 0, .null, .int 0, .null, .int 0, .int 0, .int 0, .int 0, .null, .null, .long 0]))] (fun (u : Nat → Nat) => u 0 = h0) (fun u => [((u 0), .inr (6, [.ref (u 1), .ref (u 2), .ref (u 3), .int 0, .ref (u 4), .int 0, .ref (u 5), .int 0, .int 0, .int 0, .int 0, .ref (u 6), .ref (u 7), .long 0])), ((u 1), .inl (E.2.1, 47, .inl (upd (upd (upd (fun _ => 0) 34 (-1)) 35 (-1)) 38 (-1)))), ((u 2), .inl (E.2.1, 47, .inl (fun _ => 0))), ((u 3), .inl (E.2.1, 235, .inl (fun _ => 0))), ((u 4), .inl (E.2.1, 8, .inl (fun _ => 0))), ((u 5), .inl (E.2.1, 120, .inl (fun _ => 0))), ((u 6), .inl (E.2.1, 60, .inl (fun _ => 0))), ((u 7), .inl (E.2.1, 180, .inl (fun _ => 0)))]) := by
  refine CtV.start (by decide) (Nat.le_of_ble_eq_true rfl) ?_
  intro p_ e_ s_ m_ below_ meth_ c_ A_ C hr hlocks hnm
  refine Wd.cast (lv1 := [(0, .ref h0)]) rfl rfl rfl ?_
  refine x_aload_n C dX6_init_0 0 rfl ?_
  refine x_obj C kw_ml_X6_1 (Nat.le_of_ble_eq_true rfl) (Nat.le_of_ble_eq_true rfl) dX6_init_1 ?_
  refine x_aload_n C dX6_init_4 0 rfl ?_
  refine x_bipush (v := 47) C dX6_init_5 (by decide) ?_
  refine x_newi (N := 47) C (by decide) (by decide) (by decide) (Nat.le_of_ble_eq_true rfl) (Nat.le_of_ble_eq_true rfl) dX6_init_7 (fun q_1 => ?_)
  refine Wd.cast (w1 := [(h0, .inr (6, [.null, .null, .null, .int 0, .null, .int 0, .null, .int 0, .int 0, .int 0, .int 0, .null, .null, .long 0])), (q_1, .inl (E.2.1, 47, .inl (fun _ => 0)))]) (lv1 := [(0, .ref h0)]) rfl rfl rfl ?_
  refine x_putF (ref := "RomSearchBusModel") C hnm inX6 tyX6 tyX6_ok nmX6 0 0 rfl rfl (by decide) kw_fl_X6_7 rfl rfl rfl rfl rfl (Nat.le_of_ble_eq_true rfl) [(h0, .inr (6, [.ref q_1, .null, .null, .int 0, .null, .int 0, .null, .int 0, .int 0, .int 0, .int 0, .null, .null, .long 0])), (q_1, .inl (E.2.1, 47, .inl (fun _ => 0)))] rfl dX6_init_9 ?_
  refine x_aload_n C dX6_init_12 0 rfl ?_
  refine x_bipush (v := 47) C dX6_init_13 (by decide) ?_
  refine x_newi (N := 47) C (by decide) (by decide) (by decide) (Nat.le_of_ble_eq_true rfl) (Nat.le_of_ble_eq_true rfl) dX6_init_15 (fun q_2 => ?_)
  refine Wd.cast (w1 := [(h0, .inr (6, [.ref q_1, .null, .null, .int 0, .null, .int 0, .null, .int 0, .int 0, .int 0, .int 0, .null, .null, .long 0])), (q_1, .inl (E.2.1, 47, .inl (fun _ => 0))), (q_2, .inl (E.2.1, 47, .inl (fun _ => 0)))]) (lv1 := [(0, .ref h0)]) rfl rfl rfl ?_
  refine x_putF (ref := "RomSearchBusModel") C hnm inX6 tyX6 tyX6_ok nmX6 0 1 rfl rfl (by decide) kw_fl_X6_13 rfl rfl rfl rfl rfl (Nat.le_of_ble_eq_true rfl) [(h0, .inr (6, [.ref q_1, .ref q_2, .null, .int 0, .null, .int 0, .null, .int 0, .int 0, .int 0, .int 0, .null, .null, .long 0])), (q_1, .inl (E.2.1, 47, .inl (fun _ => 0))), (q_2, .inl (E.2.1, 47, .inl (fun _ => 0)))] rfl dX6_init_17 ?_
  refine x_aload_n C dX6_init_20 0 rfl ?_
  refine x_sipush (v := 235) C dX6_init_21 (by decide) ?_
  refine x_newi (N := 235) C (by decide) (by decide) (by decide) (Nat.le_of_ble_eq_true rfl) (Nat.le_of_ble_eq_true rfl) dX6_init_24 (fun q_3 => ?_)
  refine Wd.cast (w1 := [(h0, .inr (6, [.ref q_1, .ref q_2, .null, .int 0, .null, .int 0, .null, .int 0, .int 0, .int 0, .int 0, .null, .null, .long 0])), (q_1, .inl (E.2.1, 47, .inl (fun _ => 0))), (q_2, .inl (E.2.1, 47, .inl (fun _ => 0))), (q_3, .inl (E.2.1, 235, .inl (fun _ => 0)))]) (lv1 := [(0, .ref h0)]) rfl rfl rfl ?_
  refine x_putF (ref := "RomSearchBusModel") C hnm inX6 tyX6 tyX6_ok nmX6 0 2 rfl rfl (by decide) kw_fl_X6_16 rfl rfl rfl rfl rfl (Nat.le_of_ble_eq_true rfl) [(h0, .inr (6, [.ref q_1, .ref q_2, .ref q_3, .int 0, .null, .int 0, .null, .int 0, .int 0, .int 0, .int 0, .null, .null, .long 0])), (q_1, .inl (E.2.1, 47, .inl (fun _ => 0))), (q_2, .inl (E.2.1, 47, .inl (fun _ => 0))), (q_3, .inl (E.2.1, 235, .inl (fun _ => 0)))] rfl dX6_init_26 ?_
  refine x_aload_n C dX6_init_29 0 rfl ?_
  refine x_bipush (v := 8) C dX6_init_30 (by decide) ?_
  refine x_newi (N := 8) C (by decide) (by decide) (by decide) (Nat.le_of_ble_eq_true rfl) (Nat.le_of_ble_eq_true rfl) dX6_init_32 (fun q_4 => ?_)
  refine Wd.cast (w1 := [(h0, .inr (6, [.ref q_1, .ref q_2, .ref q_3, .int 0, .null, .int 0, .null, .int 0, .int 0, .int 0, .int 0, .null, .null, .long 0])), (q_1, .inl (E.2.1, 47, .inl (fun _ => 0))), (q_2, .inl (E.2.1, 47, .inl (fun _ => 0))), (q_3, .inl (E.2.1, 235, .inl (fun _ => 0))), (q_4, .inl (E.2.1, 8, .inl (fun _ => 0)))]) (lv1 := [(0, .ref h0)]) rfl rfl rfl ?_
  refine x_putF (ref := "RomSearchBusModel") C hnm inX6 tyX6 tyX6_ok nmX6 0 4 rfl rfl (by decide) kw_fl_X6_19 rfl rfl rfl rfl rfl (Nat.le_of_ble_eq_true rfl) [(h0, .inr (6, [.ref q_1, .ref q_2, .ref q_3, .int 0, .ref q_4, .int 0, .null, .int 0, .int 0, .int 0, .int 0, .null, .null, .long 0])), (q_1, .inl (E.2.1, 47, .inl (fun _ => 0))), (q_2, .inl (E.2.1, 47, .inl (fun _ => 0))), (q_3, .inl (E.2.1, 235, .inl (fun _ => 0))), (q_4, .inl (E.2.1, 8, .inl (fun _ => 0)))] rfl dX6_init_34 ?_
  refine x_aload_n C dX6_init_37 0 rfl ?_
  refine x_bipush (v := 120) C dX6_init_38 (by decide) ?_
  refine x_newi (N := 120) C (by decide) (by decide) (by decide) (Nat.le_of_ble_eq_true rfl) (Nat.le_of_ble_eq_true rfl) dX6_init_40 (fun q_5 => ?_)
  refine Wd.cast (w1 := [(h0, .inr (6, [.ref q_1, .ref q_2, .ref q_3, .int 0, .ref q_4, .int 0, .null, .int 0, .int 0, .int 0, .int 0, .null, .null, .long 0])), (q_1, .inl (E.2.1, 47, .inl (fun _ => 0))), (q_2, .inl (E.2.1, 47, .inl (fun _ => 0))), (q_3, .inl (E.2.1, 235, .inl (fun _ => 0))), (q_4, .inl (E.2.1, 8, .inl (fun _ => 0))), (q_5, .inl (E.2.1, 120, .inl (fun _ => 0)))]) (lv1 := [(0, .ref h0)]) rfl rfl rfl ?_
  refine x_putF (ref := "RomSearchBusModel") C hnm inX6 tyX6 tyX6_ok nmX6 0 6 rfl rfl (by decide) kw_fl_X6_22 rfl rfl rfl rfl rfl (Nat.le_of_ble_eq_true rfl) [(h0, .inr (6, [.ref q_1, .ref q_2, .ref q_3, .int 0, .ref q_4, .int 0, .ref q_5, .int 0, .int 0, .int 0, .int 0, .null, .null, .long 0])), (q_1, .inl (E.2.1, 47, .inl (fun _ => 0))), (q_2, .inl (E.2.1, 47, .inl (fun _ => 0))), (q_3, .inl (E.2.1, 235, .inl (fun _ => 0))), (q_4, .inl (E.2.1, 8, .inl (fun _ => 0))), (q_5, .inl (E.2.1, 120, .inl (fun _ => 0)))] rfl dX6_init_42 ?_
  refine x_aload_n C dX6_init_45 0 rfl ?_
  refine x_bipush (v := 60) C dX6_init_46 (by decide) ?_
  refine x_newi (N := 60) C (by decide) (by decide) (by decide) (Nat.le_of_ble_eq_true rfl) (Nat.le_of_ble_eq_true rfl) dX6_init_48 (fun q_6 => ?_)
  refine Wd.cast (w1 := [(h0, .inr (6, [.ref q_1, .ref q_2, .ref q_3, .int 0, .ref q_4, .int 0, .ref q_5, .int 0, .int 0, .int 0, .int 0, .null, .null, .long 0])), (q_1, .inl (E.2.1, 47, .inl (fun _ => 0))), (q_2, .inl (E.2.1, 47, .inl (fun _ => 0))), (q_3, .inl (E.2.1, 235, .inl (fun _ => 0))), (q_4, .inl (E.2.1, 8, .inl (fun _ => 0))), (q_5, .inl (E.2.1, 120, .inl (fun _ => 0))), (q_6, .inl (E.2.1, 60, .inl (fun _ => 0)))]) (lv1 := [(0, .ref h0)]) rfl rfl rfl ?_
  refine x_putF (ref := "RomSearchBusModel") C hnm inX6 tyX6 tyX6_ok nmX6 0 11 rfl rfl (by decide) kw_fl_X6_25 rfl rfl rfl rfl rfl (Nat.le_of_ble_eq_true rfl) [(h0, .inr (6, [.ref q_1, .ref q_2, .ref q_3, .int 0, .ref q_4, .int 0, .ref q_5, .int 0, .int 0, .int 0, .int 0, .ref q_6, .null, .long 0])), (q_1, .inl (E.2.1, 47, .inl (fun _ => 0))), (q_2, .inl (E.2.1, 47, .inl (fun _ => 0))), (q_3, .inl (E.2.1, 235, .inl (fun _ => 0))), (q_4, .inl (E.2.1, 8, .inl (fun _ => 0))), (q_5, .inl (E.2.1, 120, .inl (fun _ => 0))), (q_6, .inl (E.2.1, 60, .inl (fun _ => 0)))] rfl dX6_init_50 ?_
  refine x_aload_n C dX6_init_53 0 rfl ?_
  refine x_sipush (v := 180) C dX6_init_54 (by decide) ?_
  refine x_newi (N := 180) C (by decide) (by decide) (by decide) (Nat.le_of_ble_eq_true rfl) (Nat.le_of_ble_eq_true rfl) dX6_init_57 (fun q_7 => ?_)
  refine Wd.cast (w1 := [(h0, .inr (6, [.ref q_1, .ref q_2, .ref q_3, .int 0, .ref q_4, .int 0, .ref q_5, .int 0, .int 0, .int 0, .int 0, .ref q_6, .null, .long 0])), (q_1, .inl (E.2.1, 47, .inl (fun _ => 0))), (q_2, .inl (E.2.1, 47, .inl (fun _ => 0))), (q_3, .inl (E.2.1, 235, .inl (fun _ => 0))), (q_4, .inl (E.2.1, 8, .inl (fun _ => 0))), (q_5, .inl (E.2.1, 120, .inl (fun _ => 0))), (q_6, .inl (E.2.1, 60, .inl (fun _ => 0))), (q_7, .inl (E.2.1, 180, .inl (fun _ => 0)))]) (lv1 := [(0, .ref h0)]) rfl rfl rfl ?_
  refine x_putF (ref := "RomSearchBusModel") C hnm inX6 tyX6 tyX6_ok nmX6 0 12 rfl rfl (by decide) kw_fl_X6_28 rfl rfl rfl rfl rfl (Nat.le_of_ble_eq_true rfl) [(h0, .inr (6, [.ref q_1, .ref q_2, .ref q_3, .int 0, .ref q_4, .int 0, .ref q_5, .int 0, .int 0, .int 0, .int 0, .ref q_6, .ref q_7, .long 0])), (q_1, .inl (E.2.1, 47, .inl (fun _ => 0))), (q_2, .inl (E.2.1, 47, .inl (fun _ => 0))), (q_3, .inl (E.2.1, 235, .inl (fun _ => 0))), (q_4, .inl (E.2.1, 8, .inl (fun _ => 0))), (q_5, .inl (E.2.1, 120, .inl (fun _ => 0))), (q_6, .inl (E.2.1, 60, .inl (fun _ => 0))), (q_7, .inl (E.2.1, 180, .inl (fun _ => 0)))] rfl dX6_init_59 ?_
  refine x_aload_n C dX6_init_62 0 rfl ?_
  refine x_get (ref := "RomSearchBusModel") (v := .ref q_1) C inX6 0 0 rfl rfl (by decide) kw_fl_X6_7 rfl rfl dX6_init_63 ?_
  refine x_bipush (v := 34) C dX6_init_66 (by decide) ?_
  refine x_iconst (v := (-1)) C dX6_init_68 (by decide) ?_
  refine x_iastN (K := 34) C 1 rfl (by decide) (by decide) (by decide) [(h0, .inr (6, [.ref q_1, .ref q_2, .ref q_3, .int 0, .ref q_4, .int 0, .ref q_5, .int 0, .int 0, .int 0, .int 0, .ref q_6, .ref q_7, .long 0])), (q_1, .inl (E.2.1, 47, .inl (upd (fun _ => 0) 34 (-1)))), (q_2, .inl (E.2.1, 47, .inl (fun _ => 0))), (q_3, .inl (E.2.1, 235, .inl (fun _ => 0))), (q_4, .inl (E.2.1, 8, .inl (fun _ => 0))), (q_5, .inl (E.2.1, 120, .inl (fun _ => 0))), (q_6, .inl (E.2.1, 60, .inl (fun _ => 0))), (q_7, .inl (E.2.1, 180, .inl (fun _ => 0)))] rfl dX6_init_69 ?_
  refine x_aload_n C dX6_init_70 0 rfl ?_
  refine x_get (ref := "RomSearchBusModel") (v := .ref q_1) C inX6 0 0 rfl rfl (by decide) kw_fl_X6_7 rfl rfl dX6_init_71 ?_
  refine x_bipush (v := 35) C dX6_init_74 (by decide) ?_
  refine x_iconst (v := (-1)) C dX6_init_76 (by decide) ?_
  refine x_iastN (K := 35) C 1 rfl (by decide) (by decide) (by decide) [(h0, .inr (6, [.ref q_1, .ref q_2, .ref q_3, .int 0, .ref q_4, .int 0, .ref q_5, .int 0, .int 0, .int 0, .int 0, .ref q_6, .ref q_7, .long 0])), (q_1, .inl (E.2.1, 47, .inl (upd (upd (fun _ => 0) 34 (-1)) 35 (-1)))), (q_2, .inl (E.2.1, 47, .inl (fun _ => 0))), (q_3, .inl (E.2.1, 235, .inl (fun _ => 0))), (q_4, .inl (E.2.1, 8, .inl (fun _ => 0))), (q_5, .inl (E.2.1, 120, .inl (fun _ => 0))), (q_6, .inl (E.2.1, 60, .inl (fun _ => 0))), (q_7, .inl (E.2.1, 180, .inl (fun _ => 0)))] rfl dX6_init_77 ?_
  refine x_aload_n C dX6_init_78 0 rfl ?_
  refine x_get (ref := "RomSearchBusModel") (v := .ref q_1) C inX6 0 0 rfl rfl (by decide) kw_fl_X6_7 rfl rfl dX6_init_79 ?_
  refine x_bipush (v := 38) C dX6_init_82 (by decide) ?_
  refine x_iconst (v := (-1)) C dX6_init_84 (by decide) ?_
  refine x_iastN (K := 38) C 1 rfl (by decide) (by decide) (by decide) [(h0, .inr (6, [.ref q_1, .ref q_2, .ref q_3, .int 0, .ref q_4, .int 0, .ref q_5, .int 0, .int 0, .int 0, .int 0, .ref q_6, .ref q_7, .long 0])), (q_1, .inl (E.2.1, 47, .inl (upd (upd (upd (fun _ => 0) 34 (-1)) 35 (-1)) 38 (-1)))), (q_2, .inl (E.2.1, 47, .inl (fun _ => 0))), (q_3, .inl (E.2.1, 235, .inl (fun _ => 0))), (q_4, .inl (E.2.1, 8, .inl (fun _ => 0))), (q_5, .inl (E.2.1, 120, .inl (fun _ => 0))), (q_6, .inl (E.2.1, 60, .inl (fun _ => 0))), (q_7, .inl (E.2.1, 180, .inl (fun _ => 0)))] rfl dX6_init_85 ?_
  exact x_vret C hr hlocks (fun k => if k = 0 then h0 else if k = 1 then q_1 else if k = 2 then q_2 else if k = 3 then q_3 else if k = 4 then q_4 else if k = 5 then q_5 else if k = 6 then q_6 else q_7) rfl (gEq.rf _) dX6_init_86
theorem ga_Jxf58ca_isNaN_12338 : gArity yJxf58ca_isNaN_12338 1 := ga_isNaN
theorem ga_Jxf58ca_floatToIntBits_5c35a : gArity yJxf58ca_floatToIntBits_5c35a 1 := ga_floatToIntBits
theorem gOfF {l : Launch} {y : MethodName} {ws ws' : List Cond} {rm : Room} {Pc : Array Value → State → Prop} {Qc : Array Value → State → Outcome → State → Prop} {mc ms : Nat} {free : Addr → Prop} {cc : ByteArray} {nL : Nat} {ret : Option FieldType}
    (hy : plainFor y = true) (hw : ws = Cond.code y cc nL ret :: ws')
    (body : ∀ p e s m args below meth c s₁, BodyLoose p l y (headSpec ws rm) cc nL ret e s m args below meth c s₁ → c.maxLocals = nL → Pc args s → W p l e (headSpec ws rm).room s m args below meth c s.heap [] 0 0 (MQ below Qc args s mc ms free) (entryFrame m args nL)) : Met l y ws rm Pc Qc mc ms free := by
  refine MetFree.of_bodySF (code := cc) (maxLocals := nL) (ret := ret) hy (fun args s m h hn => ?_) (fun p e s m args below meth c s₁ B hml hP _ => ?_)
  · obtain ⟨meth, c, h1, h2, h3, h4, h5, h6, -, -⟩ := Cond.code_spec hn (atoms_spec (ws := ws) h _ (by rw [hw]; exact List.mem_cons_self))
    exact ⟨meth, c, h1, h2, h3, h4, h5, h6⟩
  · obtain ⟨t, a1, o, b1, b2, b3⟩ := body p e s m args below meth c s₁ B hml hP s₁ (by rw [B.state]; rfl) (Stand.of_body B)
    exact ⟨t, o, a1, b1, b2, ⟨b3.1, b3.2⟩⟩
theorem CtI.startF {S : Type} {l : Launch} {E : gE} {y : MethodName} {cc : ByteArray} {nL : Nat} {ret : Option FieldType} {fr lo mc ms : Nat} {av : List Value} {w : va_W} {post : Int32 → S → Prop} {wf : S → va_W} (hy : plainFor y = true) (hlen : (lg_sl av).length ≤ nL)
    (body : ∀ (p : Program) (e : Env) (s : State) (m : MethodId) (below : List Frame) (meth : Method) (c : Code) (A : Nat → Prop), Cx p s m av.toArray c cc nL y.cls E A → meth.sig.returnType = ret → meth.locks = false → meth.name = y.name → Wd p l e (gRm fr lo mc ms) s m av.toArray below meth c E A nL 0 0 (MQ below (va_Qi post (gB E wf A) A) av.toArray s mc ms A) w 0 (lv_args 0 av) []) : CtI l E y cc nL ret fr lo mc ms av w post wf := by
  intro sz
  refine gOfF (cc := cc) (nL := nL) (ret := ret) hy rfl ?_
  intro p e s m args below meth c s₁ B hml hv
  obtain ⟨rfl, hsz, hP, hK, hD0⟩ := hv
  have hts := atoms_spec (ws := gWs y cc nL ret) B.pre
  have hown : s.vm.findClass y.cls = some m.cls := findClass_of_methodNamed B.named
  subst hsz
  have hD := hD0.self (sz := s.heap.size)
  generalize hAe : va_A w s.heap.size = A at hD ⊢
  have hA : ∀ q : Nat, s.heap.size ≤ q → A q := fun q h => by rw [← hAe]; exact Or.inr h
  have hl := lv_entry av (n := nL) hlen
  rw [lg_entry_eq]
  exact body p e s m below meth c A ⟨B.exec, B.bytes, hml, hown, fun q h => hts q (List.mem_cons_of_mem _ h), hK, hA⟩ B.returns B.notSynchronized (name_of_methodNamed B.named B.method).1 s.heap [] _ hP hD va_S.rf hl
set_option maxHeartbeats 4000000 in
set_option maxRecDepth 100000 in
theorem c_Jxf58ca_isNaN_12338 (l : Launch) (E : gE) (fx : UInt32) (hz : Op.cmpValue (FP.fcmp fx fx) .l = 0) : CtI l E yJxf58ca_isNaN_12338 prog_9_method_6_code 1 (some .boolean) 0 0 0 0 [.float fx] [] (fun r (_ : Unit) => r = 0) (fun _ => []) := by
  refine CtI.startF (by decide +kernel) (Nat.le_of_ble_eq_true rfl) ?_
  intro p_ e_ s_ m_ below_ meth_ c_ A_ C hr hlocks hnm
  refine Wd.cast (lv1 := [(0, .float fx)]) rfl rfl rfl ?_
  refine x_fload_n C dJxf58ca_isNaN_12338_0 0 rfl ?_
  refine x_fload_n C dJxf58ca_isNaN_12338_1 0 rfl ?_
  refine x_fcmp (v := 0) C dJxf58ca_isNaN_12338_2 hz ?_
  refine x_if_eq (tgt := 10) C dJxf58ca_isNaN_12338_3 (by decide) (fun c_3 => ?_) (fun c_3 => absurd c_3 (by decide))
  refine x_iconst (v := 0) C dJxf58ca_isNaN_12338_10 (by decide) ?_
  exact x_iret C hr hlocks rfl () rfl (gEq.rf _) dJxf58ca_isNaN_12338_11
set_option maxHeartbeats 4000000 in
set_option maxRecDepth 100000 in
theorem c_Jxf58ca_floatToIntBits_5c35a (l : Launch) (E : gE) (fx : UInt32) (hz : Op.cmpValue (FP.fcmp fx fx) .l = 0) : CtI l E yJxf58ca_floatToIntBits_5c35a prog_9_method_24_code 1 (some .int) 1 20 0 0 [.float fx] [] (fun r (_ : Unit) => r = fx.toInt32) (fun _ => []) := by
  refine CtI.startF (by decide +kernel) (Nat.le_of_ble_eq_true rfl) ?_
  intro p_ e_ s_ m_ below_ meth_ c_ A_ C hr hlocks hnm
  refine Wd.cast (lv1 := [(0, .float fx)]) rfl rfl rfl ?_
  refine x_fload_n C dJxf58ca_floatToIntBits_5c35a_0 0 rfl ?_
  refine x_callSI (wc := []) (wr := []) (As := [.float fx]) (rest := []) C (c_Jxf58ca_isNaN_12338 l E fx hz) (gWS C kw_ml_Jxf58ca_59 kw_st_Jxf58ca_isNaN_12338 kw_ini_Jxf58ca kw_code_Jxf58ca_isNaN_12338 ga_Jxf58ca_isNaN_12338 ⟨Nat.le_of_ble_eq_true rfl, Nat.le_of_ble_eq_true rfl⟩) [] [] [] rfl rfl rfl rfl (by decide) (fun _ => []) rfl (fun _ => rfl) rfl (Nat.le_of_ble_eq_true rfl) ⟨Nat.le_of_ble_eq_true rfl, Nat.le_of_ble_eq_true rfl⟩ rfl dJxf58ca_floatToIntBits_5c35a_1 (fun r_1 _ e_2 => ?_)
  subst e_2
  refine x_if_ne (tgt := 12) C dJxf58ca_floatToIntBits_5c35a_4 (by decide) (fun c_4 => absurd c_4 (by decide)) (fun c_4 => ?_)
  refine x_fload_n C dJxf58ca_floatToIntBits_5c35a_7 0 rfl ?_
  refine x_raw C kw_ml_Jxf58ca_74 (Nat.le_of_ble_eq_true rfl) (Nat.le_of_ble_eq_true rfl) dJxf58ca_floatToIntBits_5c35a_8 ?_
  exact x_iret C hr hlocks rfl () rfl (gEq.rf _) dJxf58ca_floatToIntBits_5c35a_11
abbrev mRo (g : Nat → Int32) : Nat → Int32 := fun j => g (1 + 4 * j + 0)
def fsR (g : Nat → Int32) (q : Int32) (n : Nat) : Int32 := if 0 ≤ q ∧ q ≤ 15 then shB (memN (mRo g) q n) n else (-2)
def fsY (y : Nat → Nat → Int32) (q : Int32) : Nat → Nat → Int32 := if 0 ≤ q ∧ q ≤ 15 then y else mOut y
theorem memS_t (f : Nat → Int32) (q : Int32) (k : Nat) : memS f q k + (if f k &&& 15 = q then 1 else 0) = memS f q (k + 1) := by
  rw [memS_s]
  split
  · rfl
  · exact Int32.add_zero _
theorem shQ_ok2 {m n : Nat} (h0 : ¬ n = 0) (h8 : n ≤ 8) (hm : m ≤ n) : shQ m n &&& 0x7fffffff ≤ 0x7f800000 ∧ Op.cmpValue (FP.fcmp (shQ m n) (shQ m n)) .l = 0 := by
  have h := shQ_ok ⟨n - 1, by omega⟩ ⟨m, by omega⟩
  rw [show n - 1 + 1 = n by omega] at h
  exact h
set_option maxHeartbeats 4000000 in
set_option maxRecDepth 100000 in
theorem c_X6_familyShareBits (l : Launch) (E : gE) (g : Nat → Nat) (y : Nat → Nat → Int32) (z : Int64) (q : Int32) (n : Nat) (hn : y 0 0 = nI n) (h8 : n ≤ 8) : CtI l E yX6_familyShareBits prog_8_method_52_code 4 (some .int) 2 40 0 0 [.ref (g 0), .int q] [((g 0), .inr (6, [.ref (g 1), .ref (g 2), .ref (g 3), .int (y 7 0), .ref (g 4), .int (y 7 1), .ref (g 5), .int (y 7 2), .int (y 7 3), .int (y 7 4), .int (y 7 5), .ref (g 6), .ref (g 7), .long z])), ((g 1), .inl (E.2.1, 47, .inl (y 0))), ((g 2), .inl (E.2.1, 47, .inl (y 1))), ((g 3), .inl (E.2.1, 235, .inl (y 2))), ((g 4), .inl (E.2.1, 8, .inl (y 3))), ((g 5), .inl (E.2.1, 120, .inl (y 4))), ((g 6), .inl (E.2.1, 60, .inl (y 5))), ((g 7), .inl (E.2.1, 180, .inl (y 6)))] (fun r (_ : Unit) => r = (fsR (y 0) q n)) (fun _ => [((g 0), .inr (6, [.ref (g 1), .ref (g 2), .ref (g 3), .int ((fsY y q) 7 0), .ref (g 4), .int ((fsY y q) 7 1), .ref (g 5), .int ((fsY y q) 7 2), .int ((fsY y q) 7 3), .int ((fsY y q) 7 4), .int ((fsY y q) 7 5), .ref (g 6), .ref (g 7), .long z])), ((g 1), .inl (E.2.1, 47, .inl ((fsY y q) 0))), ((g 2), .inl (E.2.1, 47, .inl ((fsY y q) 1))), ((g 3), .inl (E.2.1, 235, .inl ((fsY y q) 2))), ((g 4), .inl (E.2.1, 8, .inl ((fsY y q) 3))), ((g 5), .inl (E.2.1, 120, .inl ((fsY y q) 4))), ((g 6), .inl (E.2.1, 60, .inl ((fsY y q) 5))), ((g 7), .inl (E.2.1, 180, .inl ((fsY y q) 6)))]) := by
  refine CtI.start (by decide) (Nat.le_of_ble_eq_true rfl) ?_
  intro p_ e_ s_ m_ below_ meth_ c_ A_ C hr hlocks hnm
  refine Wd.cast (lv1 := [(0, .ref (g 0)), (1, .int q)]) rfl rfl rfl ?_
  refine x_iload_n C dX6_familyShareBits_0 1 rfl ?_
  refine x_iconst (v := 0) C dX6_familyShareBits_1 (by decide) ?_
  refine x_bipush (v := 15) C dX6_familyShareBits_2 (by decide) ?_
  refine x_callSI (wc := []) (wr := [((g 0), .inr (6, [.ref (g 1), .ref (g 2), .ref (g 3), .int (y 7 0), .ref (g 4), .int (y 7 1), .ref (g 5), .int (y 7 2), .int (y 7 3), .int (y 7 4), .int (y 7 5), .ref (g 6), .ref (g 7), .long z])), ((g 1), .inl (E.2.1, 47, .inl (y 0))), ((g 2), .inl (E.2.1, 47, .inl (y 1))), ((g 3), .inl (E.2.1, 235, .inl (y 2))), ((g 4), .inl (E.2.1, 8, .inl (y 3))), ((g 5), .inl (E.2.1, 120, .inl (y 4))), ((g 6), .inl (E.2.1, 60, .inl (y 5))), ((g 7), .inl (E.2.1, 180, .inl (y 6)))]) (As := [.int q, .int 0, .int 15]) (rest := []) C (c_X6_in l E q 0 15 ) (gWS C kw_ml_X6_35 kw_st_X6_in kw_ini_X6 kw_code_X6_in ga_X6_in ⟨Nat.le_of_ble_eq_true rfl, Nat.le_of_ble_eq_true rfl⟩) [] [0, 1, 2, 3, 4, 5, 6, 7] [0, 1, 2, 3, 4, 5, 6, 7] rfl rfl rfl rfl (by decide) (fun _ => [((g 0), .inr (6, [.ref (g 1), .ref (g 2), .ref (g 3), .int (y 7 0), .ref (g 4), .int (y 7 1), .ref (g 5), .int (y 7 2), .int (y 7 3), .int (y 7 4), .int (y 7 5), .ref (g 6), .ref (g 7), .long z])), ((g 1), .inl (E.2.1, 47, .inl (y 0))), ((g 2), .inl (E.2.1, 47, .inl (y 1))), ((g 3), .inl (E.2.1, 235, .inl (y 2))), ((g 4), .inl (E.2.1, 8, .inl (y 3))), ((g 5), .inl (E.2.1, 120, .inl (y 4))), ((g 6), .inl (E.2.1, 60, .inl (y 5))), ((g 7), .inl (E.2.1, 180, .inl (y 6)))]) rfl (fun _ => rfl) rfl (Nat.le_of_ble_eq_true rfl) ⟨Nat.le_of_ble_eq_true rfl, Nat.le_of_ble_eq_true rfl⟩ rfl dX6_familyShareBits_4 (fun r_1 _ e_2 => ?_)
  subst e_2
  refine x_ifB_ne (tgt := 17) C dX6_familyShareBits_7 (by decide) (fun c_7 => ?_) (fun c_7 => ?_)
  · refine x_iconst (v := 0) C dX6_familyShareBits_17 (by decide) ?_
    refine x_istore_n (lv1 := [(2, .int 0), (0, .ref (g 0)), (1, .int q)]) C dX6_familyShareBits_18 (by decide) rfl ?_
    refine x_iconst (v := 0) C dX6_familyShareBits_19 (by decide) ?_
    refine x_istore_n (lv1 := [(3, .int 0), (2, .int 0), (0, .ref (g 0)), (1, .int q)]) C dX6_familyShareBits_20 (by decide) rfl ?_
    refine Wd.locs (lv1 := [(0, .ref (g 0)), (1, .int q), (2, .int 0), (3, .int 0)]) [2, 3, 1, 0] rfl ?_
    refine Wd.cast (w1 := [((g 0), .inr (6, [.ref (g 1), .ref (g 2), .ref (g 3), .int (y 7 0), .ref (g 4), .int (y 7 1), .ref (g 5), .int (y 7 2), .int (y 7 3), .int (y 7 4), .int (y 7 5), .ref (g 6), .ref (g 7), .long z])), ((g 1), .inl (E.2.1, 47, .inl (y 0))), ((g 2), .inl (E.2.1, 47, .inl (y 1))), ((g 3), .inl (E.2.1, 235, .inl (y 2))), ((g 4), .inl (E.2.1, 8, .inl (y 3))), ((g 5), .inl (E.2.1, 120, .inl (y 4))), ((g 6), .inl (E.2.1, 60, .inl (y 5))), ((g 7), .inl (E.2.1, 180, .inl (y 6)))]) (lv1 := [(0, .ref (g 0)), (1, .int q), (2, .int (memS (mRo (y 0)) q 0)), (3, .int (nI 0))]) rfl rfl rfl ?_
    refine Wd.up (W1 := fun k => [((g 0), .inr (6, [.ref (g 1), .ref (g 2), .ref (g 3), .int (y 7 0), .ref (g 4), .int (y 7 1), .ref (g 5), .int (y 7 2), .int (y 7 3), .int (y 7 4), .int (y 7 5), .ref (g 6), .ref (g 7), .long z])), ((g 1), .inl (E.2.1, 47, .inl (y 0))), ((g 2), .inl (E.2.1, 47, .inl (y 1))), ((g 3), .inl (E.2.1, 235, .inl (y 2))), ((g 4), .inl (E.2.1, 8, .inl (y 3))), ((g 5), .inl (E.2.1, 120, .inl (y 4))), ((g 6), .inl (E.2.1, 60, .inl (y 5))), ((g 7), .inl (E.2.1, 180, .inl (y 6)))]) (LV := fun k => [(0, .ref (g 0)), (1, .int q), (2, .int (memS (mRo (y 0)) q k)), (3, .int (nI k))]) (fun k => True) 0 n (by omega) (trivial) (fun hI => ?_) (fun k hk0 hk hI ih => ?_)
    · refine Wd.cast (w1 := [((g 0), .inr (6, [.ref (g 1), .ref (g 2), .ref (g 3), .int (y 7 0), .ref (g 4), .int (y 7 1), .ref (g 5), .int (y 7 2), .int (y 7 3), .int (y 7 4), .int (y 7 5), .ref (g 6), .ref (g 7), .long z])), ((g 1), .inl (E.2.1, 47, .inl (y 0))), ((g 2), .inl (E.2.1, 47, .inl (y 1))), ((g 3), .inl (E.2.1, 235, .inl (y 2))), ((g 4), .inl (E.2.1, 8, .inl (y 3))), ((g 5), .inl (E.2.1, 120, .inl (y 4))), ((g 6), .inl (E.2.1, 60, .inl (y 5))), ((g 7), .inl (E.2.1, 180, .inl (y 6)))]) (lv1 := [(0, .ref (g 0)), (1, .int q), (2, .int (memS (mRo (y 0)) q n)), (3, .int (nI n))]) rfl rfl rfl ?_
      refine x_iload_n C dX6_familyShareBits_21 3 rfl ?_
      refine x_aload_n C dX6_familyShareBits_22 0 rfl ?_
      refine x_get (ref := "RomSearchBusModel") (v := .ref (g 1)) C inX6 0 0 rfl rfl (by decide) kw_fl_X6_7 rfl rfl dX6_familyShareBits_23 ?_
      refine x_iconst (v := 0) C dX6_familyShareBits_26 (by decide) ?_
      refine x_ialdN (K := 0) (x := (y 0 0)) C 1 rfl (by decide) (by decide) (by decide) rfl dX6_familyShareBits_27 ?_
      refine x_icmp_ge (tgt := 58) C dX6_familyShareBits_28 (by decide) (fun c_28 => ?_) (fun c_28 => absurd (by rw [hn]; exact Int32.le_refl _) c_28)
      refine x_aload_n C dX6_familyShareBits_58 0 rfl ?_
      refine x_get (ref := "RomSearchBusModel") (v := .ref (g 1)) C inX6 0 0 rfl rfl (by decide) kw_fl_X6_7 rfl rfl dX6_familyShareBits_59 ?_
      refine x_iconst (v := 0) C dX6_familyShareBits_62 (by decide) ?_
      refine x_ialdN (K := 0) (x := (y 0 0)) C 1 rfl (by decide) (by decide) (by decide) rfl dX6_familyShareBits_63 ?_
      refine x_if_ne (tgt := 71) C dX6_familyShareBits_64 (by decide) (fun c_64 => ?_) (fun c_64 => ?_)
      · have h0 : ¬ n = 0 := fun z0 => c_64 (by rw [hn, z0]; rfl)
        have hm := memN_ok (mRo (y 0)) q h8
        have hs := shQ_ok2 h0 h8 hm.2
        refine x_iload_n C dX6_familyShareBits_71 2 rfl ?_
        have g_3 : memS (mRo (y 0)) q n = (nI (memN (mRo (y 0)) q n)) := hm.1
        refine Wd.cast (w1 := [((g 0), .inr (6, [.ref (g 1), .ref (g 2), .ref (g 3), .int (y 7 0), .ref (g 4), .int (y 7 1), .ref (g 5), .int (y 7 2), .int (y 7 3), .int (y 7 4), .int (y 7 5), .ref (g 6), .ref (g 7), .long z])), ((g 1), .inl (E.2.1, 47, .inl (y 0))), ((g 2), .inl (E.2.1, 47, .inl (y 1))), ((g 3), .inl (E.2.1, 235, .inl (y 2))), ((g 4), .inl (E.2.1, 8, .inl (y 3))), ((g 5), .inl (E.2.1, 120, .inl (y 4))), ((g 6), .inl (E.2.1, 60, .inl (y 5))), ((g 7), .inl (E.2.1, 180, .inl (y 6)))]) (lv1 := [(0, .ref (g 0)), (1, .int q), (2, .int (memS (mRo (y 0)) q n)), (3, .int (nI n))]) (st1 := [.int (nI (memN (mRo (y 0)) q n))]) rfl rfl (by rw [g_3]) ?_
        refine x_i2f C dX6_familyShareBits_72 rfl ?_
        refine x_aload_n C dX6_familyShareBits_73 0 rfl ?_
        refine x_get (ref := "RomSearchBusModel") (v := .ref (g 1)) C inX6 0 0 rfl rfl (by decide) kw_fl_X6_7 rfl rfl dX6_familyShareBits_74 ?_
        refine x_iconst (v := 0) C dX6_familyShareBits_77 (by decide) ?_
        refine x_ialdN (K := 0) (x := (y 0 0)) C 1 rfl (by decide) (by decide) (by decide) rfl dX6_familyShareBits_78 ?_
        have g_4 : (y 0 0) = (nI n) := hn
        refine Wd.cast (w1 := [((g 0), .inr (6, [.ref (g 1), .ref (g 2), .ref (g 3), .int (y 7 0), .ref (g 4), .int (y 7 1), .ref (g 5), .int (y 7 2), .int (y 7 3), .int (y 7 4), .int (y 7 5), .ref (g 6), .ref (g 7), .long z])), ((g 1), .inl (E.2.1, 47, .inl (y 0))), ((g 2), .inl (E.2.1, 47, .inl (y 1))), ((g 3), .inl (E.2.1, 235, .inl (y 2))), ((g 4), .inl (E.2.1, 8, .inl (y 3))), ((g 5), .inl (E.2.1, 120, .inl (y 4))), ((g 6), .inl (E.2.1, 60, .inl (y 5))), ((g 7), .inl (E.2.1, 180, .inl (y 6)))]) (lv1 := [(0, .ref (g 0)), (1, .int q), (2, .int (memS (mRo (y 0)) q n)), (3, .int (nI n))]) (st1 := [.int (nI n), .float (FP.i2f (nI (memN (mRo (y 0)) q n)))]) rfl rfl (by rw [g_4]) ?_
        refine x_i2f C dX6_familyShareBits_79 rfl ?_
        refine x_fdiv C dX6_familyShareBits_80 rfl hs.1 ?_
        refine Wd.cast (w1 := [((g 0), .inr (6, [.ref (g 1), .ref (g 2), .ref (g 3), .int (y 7 0), .ref (g 4), .int (y 7 1), .ref (g 5), .int (y 7 2), .int (y 7 3), .int (y 7 4), .int (y 7 5), .ref (g 6), .ref (g 7), .long z])), ((g 1), .inl (E.2.1, 47, .inl (y 0))), ((g 2), .inl (E.2.1, 47, .inl (y 1))), ((g 3), .inl (E.2.1, 235, .inl (y 2))), ((g 4), .inl (E.2.1, 8, .inl (y 3))), ((g 5), .inl (E.2.1, 120, .inl (y 4))), ((g 6), .inl (E.2.1, 60, .inl (y 5))), ((g 7), .inl (E.2.1, 180, .inl (y 6)))]) (lv1 := [(0, .ref (g 0)), (1, .int q), (2, .int (memS (mRo (y 0)) q n)), (3, .int (nI n))]) (st1 := [.float (shQ (memN (mRo (y 0)) q n) n)]) rfl rfl rfl ?_
        refine x_fstore_n (lv1 := [(3, .float (shQ (memN (mRo (y 0)) q n) n)), (0, .ref (g 0)), (1, .int q), (2, .int (memS (mRo (y 0)) q n))]) C dX6_familyShareBits_81 (by decide) rfl ?_
        refine x_fload_n C dX6_familyShareBits_82 0 rfl ?_
        refine x_callSI (wc := []) (wr := [((g 0), .inr (6, [.ref (g 1), .ref (g 2), .ref (g 3), .int (y 7 0), .ref (g 4), .int (y 7 1), .ref (g 5), .int (y 7 2), .int (y 7 3), .int (y 7 4), .int (y 7 5), .ref (g 6), .ref (g 7), .long z])), ((g 1), .inl (E.2.1, 47, .inl (y 0))), ((g 2), .inl (E.2.1, 47, .inl (y 1))), ((g 3), .inl (E.2.1, 235, .inl (y 2))), ((g 4), .inl (E.2.1, 8, .inl (y 3))), ((g 5), .inl (E.2.1, 120, .inl (y 4))), ((g 6), .inl (E.2.1, 60, .inl (y 5))), ((g 7), .inl (E.2.1, 180, .inl (y 6)))]) (As := [.float (shQ (memN (mRo (y 0)) q n) n)]) (rest := []) C (c_Jxf58ca_floatToIntBits_5c35a l E (shQ (memN (mRo (y 0)) q n) n) hs.2) (gWS C kw_ml_X6_129 kw_st_Jxf58ca_floatToIntBits_5c35a kw_ini_Jxf58ca kw_code_Jxf58ca_floatToIntBits_5c35a ga_Jxf58ca_floatToIntBits_5c35a ⟨Nat.le_of_ble_eq_true rfl, Nat.le_of_ble_eq_true rfl⟩) [] [0, 1, 2, 3, 4, 5, 6, 7] [0, 1, 2, 3, 4, 5, 6, 7] rfl rfl rfl rfl (by decide) (fun _ => [((g 0), .inr (6, [.ref (g 1), .ref (g 2), .ref (g 3), .int (y 7 0), .ref (g 4), .int (y 7 1), .ref (g 5), .int (y 7 2), .int (y 7 3), .int (y 7 4), .int (y 7 5), .ref (g 6), .ref (g 7), .long z])), ((g 1), .inl (E.2.1, 47, .inl (y 0))), ((g 2), .inl (E.2.1, 47, .inl (y 1))), ((g 3), .inl (E.2.1, 235, .inl (y 2))), ((g 4), .inl (E.2.1, 8, .inl (y 3))), ((g 5), .inl (E.2.1, 120, .inl (y 4))), ((g 6), .inl (E.2.1, 60, .inl (y 5))), ((g 7), .inl (E.2.1, 180, .inl (y 6)))]) rfl (fun _ => rfl) rfl (Nat.le_of_ble_eq_true rfl) ⟨Nat.le_of_ble_eq_true rfl, Nat.le_of_ble_eq_true rfl⟩ rfl dX6_familyShareBits_83 (fun r_5 _ e_6 => ?_)
        subst e_6
        exact x_iret C hr hlocks rfl () (Eq.symm (by unfold fsR shB; rw [if_pos c_7, if_neg h0])) (by rw [show fsY y q = y from (by unfold fsY; rw [if_pos c_7])]; exact gEq.rf _) dX6_familyShareBits_86
      · refine x_fconst0 (v := 0) C dX6_familyShareBits_67 (by decide +kernel) ?_
        refine x_goto (tgt := 81) C dX6_familyShareBits_68 (by decide) ?_
        refine Wd.cast (w1 := [((g 0), .inr (6, [.ref (g 1), .ref (g 2), .ref (g 3), .int (y 7 0), .ref (g 4), .int (y 7 1), .ref (g 5), .int (y 7 2), .int (y 7 3), .int (y 7 4), .int (y 7 5), .ref (g 6), .ref (g 7), .long z])), ((g 1), .inl (E.2.1, 47, .inl (y 0))), ((g 2), .inl (E.2.1, 47, .inl (y 1))), ((g 3), .inl (E.2.1, 235, .inl (y 2))), ((g 4), .inl (E.2.1, 8, .inl (y 3))), ((g 5), .inl (E.2.1, 120, .inl (y 4))), ((g 6), .inl (E.2.1, 60, .inl (y 5))), ((g 7), .inl (E.2.1, 180, .inl (y 6)))]) (lv1 := [(0, .ref (g 0)), (1, .int q), (2, .int (memS (mRo (y 0)) q n)), (3, .int (nI n))]) (st1 := [.float (0 : UInt32)]) rfl rfl rfl ?_
        refine x_fstore_n (lv1 := [(3, .float (0 : UInt32)), (0, .ref (g 0)), (1, .int q), (2, .int (memS (mRo (y 0)) q n))]) C dX6_familyShareBits_81 (by decide) rfl ?_
        refine x_fload_n C dX6_familyShareBits_82 0 rfl ?_
        refine x_callSI (wc := []) (wr := [((g 0), .inr (6, [.ref (g 1), .ref (g 2), .ref (g 3), .int (y 7 0), .ref (g 4), .int (y 7 1), .ref (g 5), .int (y 7 2), .int (y 7 3), .int (y 7 4), .int (y 7 5), .ref (g 6), .ref (g 7), .long z])), ((g 1), .inl (E.2.1, 47, .inl (y 0))), ((g 2), .inl (E.2.1, 47, .inl (y 1))), ((g 3), .inl (E.2.1, 235, .inl (y 2))), ((g 4), .inl (E.2.1, 8, .inl (y 3))), ((g 5), .inl (E.2.1, 120, .inl (y 4))), ((g 6), .inl (E.2.1, 60, .inl (y 5))), ((g 7), .inl (E.2.1, 180, .inl (y 6)))]) (As := [.float (0 : UInt32)]) (rest := []) C (c_Jxf58ca_floatToIntBits_5c35a l E (0 : UInt32) (by decide +kernel)) (gWS C kw_ml_X6_129 kw_st_Jxf58ca_floatToIntBits_5c35a kw_ini_Jxf58ca kw_code_Jxf58ca_floatToIntBits_5c35a ga_Jxf58ca_floatToIntBits_5c35a ⟨Nat.le_of_ble_eq_true rfl, Nat.le_of_ble_eq_true rfl⟩) [] [0, 1, 2, 3, 4, 5, 6, 7] [0, 1, 2, 3, 4, 5, 6, 7] rfl rfl rfl rfl (by decide) (fun _ => [((g 0), .inr (6, [.ref (g 1), .ref (g 2), .ref (g 3), .int (y 7 0), .ref (g 4), .int (y 7 1), .ref (g 5), .int (y 7 2), .int (y 7 3), .int (y 7 4), .int (y 7 5), .ref (g 6), .ref (g 7), .long z])), ((g 1), .inl (E.2.1, 47, .inl (y 0))), ((g 2), .inl (E.2.1, 47, .inl (y 1))), ((g 3), .inl (E.2.1, 235, .inl (y 2))), ((g 4), .inl (E.2.1, 8, .inl (y 3))), ((g 5), .inl (E.2.1, 120, .inl (y 4))), ((g 6), .inl (E.2.1, 60, .inl (y 5))), ((g 7), .inl (E.2.1, 180, .inl (y 6)))]) rfl (fun _ => rfl) rfl (Nat.le_of_ble_eq_true rfl) ⟨Nat.le_of_ble_eq_true rfl, Nat.le_of_ble_eq_true rfl⟩ rfl dX6_familyShareBits_83 (fun r_7 _ e_8 => ?_)
        subst e_8
        have h0 : n = 0 := (nI_zero (by omega)).mp (hn.symm.trans c_64)
        exact x_iret C hr hlocks rfl () (Eq.symm (by unfold fsR shB; rw [if_pos c_7, if_pos h0]; rfl)) (by rw [show fsY y q = y from (by unfold fsY; rw [if_pos c_7])]; exact gEq.rf _) dX6_familyShareBits_86
    · refine Wd.cast (w1 := [((g 0), .inr (6, [.ref (g 1), .ref (g 2), .ref (g 3), .int (y 7 0), .ref (g 4), .int (y 7 1), .ref (g 5), .int (y 7 2), .int (y 7 3), .int (y 7 4), .int (y 7 5), .ref (g 6), .ref (g 7), .long z])), ((g 1), .inl (E.2.1, 47, .inl (y 0))), ((g 2), .inl (E.2.1, 47, .inl (y 1))), ((g 3), .inl (E.2.1, 235, .inl (y 2))), ((g 4), .inl (E.2.1, 8, .inl (y 3))), ((g 5), .inl (E.2.1, 120, .inl (y 4))), ((g 6), .inl (E.2.1, 60, .inl (y 5))), ((g 7), .inl (E.2.1, 180, .inl (y 6)))]) (lv1 := [(0, .ref (g 0)), (1, .int q), (2, .int (memS (mRo (y 0)) q k)), (3, .int (nI k))]) rfl rfl rfl ?_
      refine x_iload_n C dX6_familyShareBits_21 3 rfl ?_
      refine x_aload_n C dX6_familyShareBits_22 0 rfl ?_
      refine x_get (ref := "RomSearchBusModel") (v := .ref (g 1)) C inX6 0 0 rfl rfl (by decide) kw_fl_X6_7 rfl rfl dX6_familyShareBits_23 ?_
      refine x_iconst (v := 0) C dX6_familyShareBits_26 (by decide) ?_
      refine x_ialdN (K := 0) (x := (y 0 0)) C 1 rfl (by decide) (by decide) (by decide) rfl dX6_familyShareBits_27 ?_
      refine x_icmp_ge (tgt := 58) C dX6_familyShareBits_28 (by decide) (fun c_28 => absurd c_28 (by rw [hn]; exact nI_ge hk (by omega))) (fun c_28 => ?_)
      refine x_iload_n C dX6_familyShareBits_31 2 rfl ?_
      refine x_aload_n C dX6_familyShareBits_32 0 rfl ?_
      refine x_iload_n C dX6_familyShareBits_33 3 rfl ?_
      refine x_iconst (v := 0) C dX6_familyShareBits_34 (by decide) ?_
      refine x_callVI (wc := [((g 0), .inr (6, [.ref (g 1), .ref (g 2), .ref (g 3), .int (y 7 0), .ref (g 4), .int (y 7 1), .ref (g 5), .int (y 7 2), .int (y 7 3), .int (y 7 4), .int (y 7 5), .ref (g 6), .ref (g 7), .long z])), ((g 1), .inl (E.2.1, 47, .inl (y 0))), ((g 2), .inl (E.2.1, 47, .inl (y 1))), ((g 3), .inl (E.2.1, 235, .inl (y 2))), ((g 4), .inl (E.2.1, 8, .inl (y 3))), ((g 5), .inl (E.2.1, 120, .inl (y 4))), ((g 6), .inl (E.2.1, 60, .inl (y 5))), ((g 7), .inl (E.2.1, 180, .inl (y 6)))]) (wr := []) (As := [.int (nI k), .int 0]) (rest := [.int (memS (mRo (y 0)) q k)]) (ci := 6) (q0 := 0) C (c_X6_of l E g y z (nI k) 0 k 0 rfl rfl (by omega)) (gWV C kw_ml_X6_53 kw_im_X6_of kw_sel_X6_of kw_ini_X6 kw_code_X6_of ga_X6_of ⟨Nat.le_of_ble_eq_true rfl, Nat.le_of_ble_eq_true rfl⟩) rfl rfl [0, 1, 2, 3, 4, 5, 6, 7] [] [0, 1, 2, 3, 4, 5, 6, 7] rfl rfl rfl rfl (by decide) (fun _ => [((g 0), .inr (6, [.ref (g 1), .ref (g 2), .ref (g 3), .int (y 7 0), .ref (g 4), .int (y 7 1), .ref (g 5), .int (y 7 2), .int (y 7 3), .int (y 7 4), .int (y 7 5), .ref (g 6), .ref (g 7), .long z])), ((g 1), .inl (E.2.1, 47, .inl (y 0))), ((g 2), .inl (E.2.1, 47, .inl (y 1))), ((g 3), .inl (E.2.1, 235, .inl (y 2))), ((g 4), .inl (E.2.1, 8, .inl (y 3))), ((g 5), .inl (E.2.1, 120, .inl (y 4))), ((g 6), .inl (E.2.1, 60, .inl (y 5))), ((g 7), .inl (E.2.1, 180, .inl (y 6)))]) rfl (fun _ => rfl) rfl (Nat.le_of_ble_eq_true rfl) ⟨Nat.le_of_ble_eq_true rfl, Nat.le_of_ble_eq_true rfl⟩ rfl dX6_familyShareBits_35 (fun r_9 _ e_10 => ?_)
      subst e_10
      refine x_bipush (v := 15) C dX6_familyShareBits_38 (by decide) ?_
      refine x_iand C dX6_familyShareBits_40 ?_
      refine x_iload_n C dX6_familyShareBits_41 1 rfl ?_
      refine Wd.mrg (P := ((y 0 (1 + 4 * k + 0)) &&& 15) = q) (a := 1) (b := 0) (pc2 := 50) (w2 := [((g 0), .inr (6, [.ref (g 1), .ref (g 2), .ref (g 3), .int (y 7 0), .ref (g 4), .int (y 7 1), .ref (g 5), .int (y 7 2), .int (y 7 3), .int (y 7 4), .int (y 7 5), .ref (g 6), .ref (g 7), .long z])), ((g 1), .inl (E.2.1, 47, .inl (y 0))), ((g 2), .inl (E.2.1, 47, .inl (y 1))), ((g 3), .inl (E.2.1, 235, .inl (y 2))), ((g 4), .inl (E.2.1, 8, .inl (y 3))), ((g 5), .inl (E.2.1, 120, .inl (y 4))), ((g 6), .inl (E.2.1, 60, .inl (y 5))), ((g 7), .inl (E.2.1, 180, .inl (y 6)))]) (lv2 := [(0, .ref (g 0)), (1, .int q), (2, .int (memS (mRo (y 0)) q k)), (3, .int (nI k))]) (st2 := [.int (memS (mRo (y 0)) q k)]) (fun j1 j2 => ?_) ?_
      · refine x_icmp_ne (tgt := 49) C dX6_familyShareBits_42 (by decide) (fun c_42 => ?_) (fun c_42 => ?_)
        · refine x_iconst (v := 0) C dX6_familyShareBits_49 (by decide) ?_
          exact j2 c_42
        · refine x_iconst (v := 1) C dX6_familyShareBits_45 (by decide) ?_
          refine x_goto (tgt := 50) C dX6_familyShareBits_46 (by decide) ?_
          exact j1 c_42
      refine x_iadd C dX6_familyShareBits_50 ?_
      refine x_istore_n (lv1 := [(2, .int ((memS (mRo (y 0)) q k) + (if ((y 0 (1 + 4 * k + 0)) &&& 15) = q then 1 else 0))), (0, .ref (g 0)), (1, .int q), (3, .int (nI k))]) C dX6_familyShareBits_51 (by decide) rfl ?_
      refine x_iinc (j := 3) (v := (nI (k + 1))) (lv1 := [(3, .int (nI (k + 1))), (2, .int ((memS (mRo (y 0)) q k) + (if ((y 0 (1 + 4 * k + 0)) &&& 15) = q then 1 else 0))), (0, .ref (g 0)), (1, .int q)]) C dX6_familyShareBits_52 rfl (nI_1 _) (by decide) rfl ?_
      refine x_goto (tgt := 21) C dX6_familyShareBits_55 (by decide) ?_
      refine Wd.locs (lv1 := [(0, .ref (g 0)), (1, .int q), (2, .int ((memS (mRo (y 0)) q k) + (if ((y 0 (1 + 4 * k + 0)) &&& 15) = q then 1 else 0))), (3, .int (nI (k + 1)))]) [2, 3, 1, 0] rfl ?_
      have w_11 : ((memS (mRo (y 0)) q k) + (if ((y 0 (1 + 4 * k + 0)) &&& 15) = q then 1 else 0)) = memS (mRo (y 0)) q (k + 1) := (memS_t (mRo (y 0)) q k)
      exact Wd.cast (w1 := [((g 0), .inr (6, [.ref (g 1), .ref (g 2), .ref (g 3), .int (y 7 0), .ref (g 4), .int (y 7 1), .ref (g 5), .int (y 7 2), .int (y 7 3), .int (y 7 4), .int (y 7 5), .ref (g 6), .ref (g 7), .long z])), ((g 1), .inl (E.2.1, 47, .inl (y 0))), ((g 2), .inl (E.2.1, 47, .inl (y 1))), ((g 3), .inl (E.2.1, 235, .inl (y 2))), ((g 4), .inl (E.2.1, 8, .inl (y 3))), ((g 5), .inl (E.2.1, 120, .inl (y 4))), ((g 6), .inl (E.2.1, 60, .inl (y 5))), ((g 7), .inl (E.2.1, 180, .inl (y 6)))]) (lv1 := [(0, .ref (g 0)), (1, .int q), (2, .int (memS (mRo (y 0)) q (k + 1))), (3, .int (nI (k + 1)))]) rfl (by first | (rw [w_11]; done) | (rw [← w_11]; done) | simp only [w_11]) rfl (ih trivial)
  · refine x_aload_n C dX6_familyShareBits_10 0 rfl ?_
    refine x_bipush (v := (-2)) C dX6_familyShareBits_11 (by decide) ?_
    refine x_callVI (wc := [((g 0), .inr (6, [.ref (g 1), .ref (g 2), .ref (g 3), .int (y 7 0), .ref (g 4), .int (y 7 1), .ref (g 5), .int (y 7 2), .int (y 7 3), .int (y 7 4), .int (y 7 5), .ref (g 6), .ref (g 7), .long z])), ((g 1), .inl (E.2.1, 47, .inl (y 0))), ((g 2), .inl (E.2.1, 47, .inl (y 1))), ((g 3), .inl (E.2.1, 235, .inl (y 2))), ((g 4), .inl (E.2.1, 8, .inl (y 3))), ((g 5), .inl (E.2.1, 120, .inl (y 4))), ((g 6), .inl (E.2.1, 60, .inl (y 5))), ((g 7), .inl (E.2.1, 180, .inl (y 6)))]) (wr := []) (As := [.int (-2)]) (rest := []) (ci := 6) (q0 := 0) C (c_X6_counted l E g y z (-2) (by decide)) (gWV C kw_ml_X6_43 kw_im_X6_counted kw_sel_X6_counted kw_ini_X6 kw_code_X6_counted ga_X6_counted ⟨Nat.le_of_ble_eq_true rfl, Nat.le_of_ble_eq_true rfl⟩) rfl rfl [0, 1, 2, 3, 4, 5, 6, 7] [] [0, 1, 2, 3, 4, 5, 6, 7] rfl rfl rfl rfl (by decide) (fun _ => [((g 0), .inr (6, [.ref (g 1), .ref (g 2), .ref (g 3), .int (y 7 0), .ref (g 4), .int (y 7 1), .ref (g 5), .int (y 7 2), .int (y 7 3), .int (y 7 4), .int (y 7 5), .ref (g 6), .ref (g 7), .long z])), ((g 1), .inl (E.2.1, 47, .inl (y 0))), ((g 2), .inl (E.2.1, 47, .inl (y 1))), ((g 3), .inl (E.2.1, 235, .inl (y 2))), ((g 4), .inl (E.2.1, 8, .inl (upd (y 3) (eK (-2)) ((y 3 (eK (-2))) + 1)))), ((g 5), .inl (E.2.1, 120, .inl (y 4))), ((g 6), .inl (E.2.1, 60, .inl (y 5))), ((g 7), .inl (E.2.1, 180, .inl (y 6)))]) rfl (fun _ => rfl) rfl (Nat.le_of_ble_eq_true rfl) ⟨Nat.le_of_ble_eq_true rfl, Nat.le_of_ble_eq_true rfl⟩ rfl dX6_familyShareBits_13 (fun r_12 _ e_13 => ?_)
    subst e_13
    exact x_iret C hr hlocks rfl () (Eq.symm (by unfold fsR; rw [if_neg c_7])) (by rw [show fsY y q = (rs y 3 (eK (-2)) ((y 3 (eK (-2))) + 1)) from (by unfold fsY; rw [if_neg c_7]; rfl)]; exact gEq.rf _) dX6_familyShareBits_16
