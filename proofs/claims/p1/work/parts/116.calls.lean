set_option maxHeartbeats 4000000 in
set_option maxRecDepth 100000 in
theorem tX3_init_n1 (l : Launch) (dC : Nat → ClassId) (dI : Nat → Nat → Nat) (h0 : Nat) (sz : Nat) : Met l yX3_init (.code yX3_init cX3_init 1 none :: wP) ({ frames := 1, cells := 6, slots := 10286, locals := 20 }) (Pz dC dI [.ref h0] sz [(h0, .inr (2, [.null, .null, .null, .null, .null, .null, .null, .int 0, .int 0, .int 0, .int 0, .int 0]))] []) (va_Qv (fun (_ : Unit) => True) (fun (_ : Unit) (t : State) => ∃ (q1 : Nat) (q3 : Nat) (q5 : Nat) (q7 : Nat) (q9 : Nat) (q11 : Nat), va_P (dC, dI) vC [(h0, .inr (2, [.ref q1, .ref q3, .ref q5, .ref q7, .ref q9, .ref q11, .null, .int 0, .int 0, .int 0, .int 0, .int 0]))] t.heap ∧ va_K (dC, dI) vC [] t ∧ va_D (va_A [(h0, .inr (2, [.null, .null, .null, .null, .null, .null, .null, .int 0, .int 0, .int 0, .int 0, .int 0]))] sz) [(h0, .inr (2, [.ref q1, .ref q3, .ref q5, .ref q7, .ref q9, .ref q11, .null, .int 0, .int 0, .int 0, .int 0, .int 0]))]) (va_A [(h0, .inr (2, [.null, .null, .null, .null, .null, .null, .null, .int 0, .int 0, .int 0, .int 0, .int 0]))] sz)) 6 10286 (va_A [(h0, .inr (2, [.null, .null, .null, .null, .null, .null, .null, .int 0, .int 0, .int 0, .int 0, .int 0]))] sz) := by
  refine Met.ofW (cc := cX3_init) (maxL := 1) (ret := none) (by decide) rfl ?_
  intro p e s m args below meth c s₁ B hml hv
  obtain ⟨rfl, hsz, hP, hK, hD0⟩ := hv
  have hx := B.exec
  have hb := B.bytes
  have hr := B.returns
  have hts := atoms_spec (ws := .code yX3_init cX3_init 1 none :: wP) B.pre
  have hw : ∀ w ∈ wP, w.before _ s = true := fun w h => hts w (List.mem_cons_of_mem _ h)
  have hown : s.vm.findClass RX3 = some m.cls := findClass_of_methodNamed B.named
  have hlocks := B.notSynchronized
  have hin : meth.name = "<init>" := (name_of_methodNamed B.named B.method).1
  subst hsz
  have hD := hD0.self (sz := s.heap.size)
  generalize hAe : va_A [(h0, .inr (2, [.null, .null, .null, .null, .null, .null, .null, .int 0, .int 0, .int 0, .int 0, .int 0]))] s.heap.size = A at hD ⊢
  have hA : ∀ q : Nat, s.heap.size ≤ q → A q := fun q h => by rw [← hAe]; exact Or.inr h
  have hS : va_S A s.heap s.heap [] := va_S.rf
  have hP : va_P (dC, dI) vC [(h0, .inr (2, [.null, .null, .null, .null, .null, .null, .null, .int 0, .int 0, .int 0, .int 0, .int 0]))] s.heap := hP
  have hl := lv_entry ([.ref h0]) (n := 1) (Nat.le_of_ble_eq_true rfl)
  rw [lg_entry_eq]
  generalize (lg_sl ([.ref h0]) ++ List.replicate (1 - (lg_sl ([.ref h0])).length) Slot.unset).toArray = ls at hl ⊢
  have hl : lv_has ls 1 [(0, .ref h0)] := hl
  refine lv_aload_n hx hb dX3_init_0 rfl (lv_at hl 0 rfl) ?_
  refine W.objInit hx hb hown (hw _ mP_248) (hw _ mP_28) (hw _ mP_29) rfl (by rw [hml]; exact hl.1) rfl dX3_init_1 (Nat.le_of_ble_eq_true rfl) (Nat.le_of_ble_eq_true rfl) ?_
  refine W.eq (g2 := F0 m 4 ls []) rfl ?_
  refine lv_aload_n hx hb dX3_init_4 rfl (lv_at hl 0 rfl) ?_
  refine lv_sipush (v := 500) hx hb dX3_init_5 (by decide) ?_
  refine va_newa (atype := .int) (ty := .int) (a0 := (500, .inl (fun _ => 0))) hx hb (hw _ mP_32) rfl hK hP hD hS hA (fun _ => rfl) (by decide +kernel) (by decide +kernel) (by decide +kernel) (Nat.le_of_ble_eq_true rfl) (Nat.le_of_ble_eq_true rfl) dX3_init_8 (fun q1 b2 H hK hP hD hS => ?_)
  have hP : va_P (dC, dI) vC [(h0, .inr (2, [.null, .null, .null, .null, .null, .null, .null, .int 0, .int 0, .int 0, .int 0, .int 0])), (q1, .inl (b2, 500, .inl (fun _ => 0)))] H := hP
  have hD : va_D A [(h0, .inr (2, [.null, .null, .null, .null, .null, .null, .null, .int 0, .int 0, .int 0, .int 0, .int 0])), (q1, .inl (b2, 500, .inl (fun _ => 0)))] := hD
  have hK : va_K (dC, dI) vC [(b2, .int)] s := hK
  refine W.widen (k := 1) (n := 500) (Nat.le_of_ble_eq_true rfl) (Nat.le_of_ble_eq_true rfl) ?_
  refine va_putF (D := (dC, dI)) (ci := 2) (v := .ref q1) (ty := .array .int) (C := RX3) (T := TX3) (N := 12) hx hb hw inX3 tyX3 tyX3_ok nmX3 hown hK hP hD hS 0 rfl rfl 0 (by decide) (hw _ mP_249) (fun _ h9 => h9) rfl hin rfl (tyX3_ok 0 (by decide)) rfl rfl (Nat.le_of_ble_eq_true rfl) dX3_init_10 (fun H locs hP hD hS => ?_)
  have hP : va_P (dC, dI) vC [(h0, .inr (2, [.ref q1, .null, .null, .null, .null, .null, .null, .int 0, .int 0, .int 0, .int 0, .int 0])), (q1, .inl (b2, 500, .inl (fun _ => 0)))] H := hP
  have hD : va_D A [(h0, .inr (2, [.ref q1, .null, .null, .null, .null, .null, .null, .int 0, .int 0, .int 0, .int 0, .int 0])), (q1, .inl (b2, 500, .inl (fun _ => 0)))] := hD
  have hP := hP.sub (ws' := [(h0, .inr (2, [.ref q1, .null, .null, .null, .null, .null, .null, .int 0, .int 0, .int 0, .int 0, .int 0]))]) [0] rfl
  have hD := hD.sub (ws' := [(h0, .inr (2, [.ref q1, .null, .null, .null, .null, .null, .null, .int 0, .int 0, .int 0, .int 0, .int 0]))]) [0] (by decide) rfl
  have hK := hK.sub (tys' := []) [] rfl
  refine lv_aload_n hx hb dX3_init_13 rfl (lv_at hl 0 rfl) ?_
  refine lv_sipush (v := 500) hx hb dX3_init_14 (by decide) ?_
  refine va_newa (atype := .int) (ty := .int) (a0 := (500, .inl (fun _ => 0))) hx hb (hw _ mP_32) rfl hK hP hD hS hA (fun _ => rfl) (by decide +kernel) (by decide +kernel) (by decide +kernel) (Nat.le_of_ble_eq_true rfl) (Nat.le_of_ble_eq_true rfl) dX3_init_17 (fun q3 b4 H hK hP hD hS => ?_)
  have hP : va_P (dC, dI) vC [(h0, .inr (2, [.ref q1, .null, .null, .null, .null, .null, .null, .int 0, .int 0, .int 0, .int 0, .int 0])), (q3, .inl (b4, 500, .inl (fun _ => 0)))] H := hP
  have hD : va_D A [(h0, .inr (2, [.ref q1, .null, .null, .null, .null, .null, .null, .int 0, .int 0, .int 0, .int 0, .int 0])), (q3, .inl (b4, 500, .inl (fun _ => 0)))] := hD
  have hK : va_K (dC, dI) vC [(b4, .int)] s := hK
  refine W.widen (k := 2) (n := 1000) (Nat.le_of_ble_eq_true rfl) (Nat.le_of_ble_eq_true rfl) ?_
  refine va_putF (D := (dC, dI)) (ci := 2) (v := .ref q3) (ty := .array .int) (C := RX3) (T := TX3) (N := 12) hx hb hw inX3 tyX3 tyX3_ok nmX3 hown hK hP hD hS 0 rfl rfl 1 (by decide) (hw _ mP_250) (fun _ h9 => h9) rfl hin rfl (tyX3_ok 1 (by decide)) rfl rfl (Nat.le_of_ble_eq_true rfl) dX3_init_19 (fun H locs hP hD hS => ?_)
  have hP : va_P (dC, dI) vC [(h0, .inr (2, [.ref q1, .ref q3, .null, .null, .null, .null, .null, .int 0, .int 0, .int 0, .int 0, .int 0])), (q3, .inl (b4, 500, .inl (fun _ => 0)))] H := hP
  have hD : va_D A [(h0, .inr (2, [.ref q1, .ref q3, .null, .null, .null, .null, .null, .int 0, .int 0, .int 0, .int 0, .int 0])), (q3, .inl (b4, 500, .inl (fun _ => 0)))] := hD
  have hP := hP.sub (ws' := [(h0, .inr (2, [.ref q1, .ref q3, .null, .null, .null, .null, .null, .int 0, .int 0, .int 0, .int 0, .int 0]))]) [0] rfl
  have hD := hD.sub (ws' := [(h0, .inr (2, [.ref q1, .ref q3, .null, .null, .null, .null, .null, .int 0, .int 0, .int 0, .int 0, .int 0]))]) [0] (by decide) rfl
  have hK := hK.sub (tys' := []) [] rfl
  refine lv_aload_n hx hb dX3_init_22 rfl (lv_at hl 0 rfl) ?_
  refine lv_sipush (v := 8240) hx hb dX3_init_23 (by decide) ?_
  refine va_newa (atype := .long) (ty := .long) (a0 := (8240, .inr (.inl (fun _ => 0)))) hx hb (hw _ mP_184) rfl hK hP hD hS hA (fun _ => rfl) (by decide +kernel) (by decide +kernel) (by decide +kernel) (Nat.le_of_ble_eq_true rfl) (Nat.le_of_ble_eq_true rfl) dX3_init_26 (fun q5 b6 H hK hP hD hS => ?_)
  have hP : va_P (dC, dI) vC [(h0, .inr (2, [.ref q1, .ref q3, .null, .null, .null, .null, .null, .int 0, .int 0, .int 0, .int 0, .int 0])), (q5, .inl (b6, 8240, .inr (.inl (fun _ => 0))))] H := hP
  have hD : va_D A [(h0, .inr (2, [.ref q1, .ref q3, .null, .null, .null, .null, .null, .int 0, .int 0, .int 0, .int 0, .int 0])), (q5, .inl (b6, 8240, .inr (.inl (fun _ => 0))))] := hD
  have hK : va_K (dC, dI) vC [(b6, .long)] s := hK
  refine W.widen (k := 3) (n := 9240) (Nat.le_of_ble_eq_true rfl) (Nat.le_of_ble_eq_true rfl) ?_
  refine va_putF (D := (dC, dI)) (ci := 2) (v := .ref q5) (ty := .array .long) (C := RX3) (T := TX3) (N := 12) hx hb hw inX3 tyX3 tyX3_ok nmX3 hown hK hP hD hS 0 rfl rfl 2 (by decide) (hw _ mP_251) (fun _ h9 => h9) rfl hin rfl (tyX3_ok 2 (by decide)) rfl rfl (Nat.le_of_ble_eq_true rfl) dX3_init_28 (fun H locs hP hD hS => ?_)
  have hP : va_P (dC, dI) vC [(h0, .inr (2, [.ref q1, .ref q3, .ref q5, .null, .null, .null, .null, .int 0, .int 0, .int 0, .int 0, .int 0])), (q5, .inl (b6, 8240, .inr (.inl (fun _ => 0))))] H := hP
  have hD : va_D A [(h0, .inr (2, [.ref q1, .ref q3, .ref q5, .null, .null, .null, .null, .int 0, .int 0, .int 0, .int 0, .int 0])), (q5, .inl (b6, 8240, .inr (.inl (fun _ => 0))))] := hD
  have hP := hP.sub (ws' := [(h0, .inr (2, [.ref q1, .ref q3, .ref q5, .null, .null, .null, .null, .int 0, .int 0, .int 0, .int 0, .int 0]))]) [0] rfl
  have hD := hD.sub (ws' := [(h0, .inr (2, [.ref q1, .ref q3, .ref q5, .null, .null, .null, .null, .int 0, .int 0, .int 0, .int 0, .int 0]))]) [0] (by decide) rfl
  have hK := hK.sub (tys' := []) [] rfl
  refine lv_aload_n hx hb dX3_init_31 rfl (lv_at hl 0 rfl) ?_
  refine lv_sipush (v := 1030) hx hb dX3_init_32 (by decide) ?_
  refine va_newa (atype := .int) (ty := .int) (a0 := (1030, .inl (fun _ => 0))) hx hb (hw _ mP_32) rfl hK hP hD hS hA (fun _ => rfl) (by decide +kernel) (by decide +kernel) (by decide +kernel) (Nat.le_of_ble_eq_true rfl) (Nat.le_of_ble_eq_true rfl) dX3_init_35 (fun q7 b8 H hK hP hD hS => ?_)
  have hP : va_P (dC, dI) vC [(h0, .inr (2, [.ref q1, .ref q3, .ref q5, .null, .null, .null, .null, .int 0, .int 0, .int 0, .int 0, .int 0])), (q7, .inl (b8, 1030, .inl (fun _ => 0)))] H := hP
  have hD : va_D A [(h0, .inr (2, [.ref q1, .ref q3, .ref q5, .null, .null, .null, .null, .int 0, .int 0, .int 0, .int 0, .int 0])), (q7, .inl (b8, 1030, .inl (fun _ => 0)))] := hD
  have hK : va_K (dC, dI) vC [(b8, .int)] s := hK
  refine W.widen (k := 4) (n := 10270) (Nat.le_of_ble_eq_true rfl) (Nat.le_of_ble_eq_true rfl) ?_
  refine va_putF (D := (dC, dI)) (ci := 2) (v := .ref q7) (ty := .array .int) (C := RX3) (T := TX3) (N := 12) hx hb hw inX3 tyX3 tyX3_ok nmX3 hown hK hP hD hS 0 rfl rfl 3 (by decide) (hw _ mP_252) (fun _ h9 => h9) rfl hin rfl (tyX3_ok 3 (by decide)) rfl rfl (Nat.le_of_ble_eq_true rfl) dX3_init_37 (fun H locs hP hD hS => ?_)
  have hP : va_P (dC, dI) vC [(h0, .inr (2, [.ref q1, .ref q3, .ref q5, .ref q7, .null, .null, .null, .int 0, .int 0, .int 0, .int 0, .int 0])), (q7, .inl (b8, 1030, .inl (fun _ => 0)))] H := hP
  have hD : va_D A [(h0, .inr (2, [.ref q1, .ref q3, .ref q5, .ref q7, .null, .null, .null, .int 0, .int 0, .int 0, .int 0, .int 0])), (q7, .inl (b8, 1030, .inl (fun _ => 0)))] := hD
  have hP := hP.sub (ws' := [(h0, .inr (2, [.ref q1, .ref q3, .ref q5, .ref q7, .null, .null, .null, .int 0, .int 0, .int 0, .int 0, .int 0]))]) [0] rfl
  have hD := hD.sub (ws' := [(h0, .inr (2, [.ref q1, .ref q3, .ref q5, .ref q7, .null, .null, .null, .int 0, .int 0, .int 0, .int 0, .int 0]))]) [0] (by decide) rfl
  have hK := hK.sub (tys' := []) [] rfl
  refine lv_aload_n hx hb dX3_init_40 rfl (lv_at hl 0 rfl) ?_
  refine lv_bipush (v := 8) hx hb dX3_init_41 (by decide) ?_
  refine va_newa (atype := .long) (ty := .long) (a0 := (8, .inr (.inl (fun _ => 0)))) hx hb (hw _ mP_184) rfl hK hP hD hS hA (fun _ => rfl) (by decide +kernel) (by decide +kernel) (by decide +kernel) (Nat.le_of_ble_eq_true rfl) (Nat.le_of_ble_eq_true rfl) dX3_init_43 (fun q9 b10 H hK hP hD hS => ?_)
  have hP : va_P (dC, dI) vC [(h0, .inr (2, [.ref q1, .ref q3, .ref q5, .ref q7, .null, .null, .null, .int 0, .int 0, .int 0, .int 0, .int 0])), (q9, .inl (b10, 8, .inr (.inl (fun _ => 0))))] H := hP
  have hD : va_D A [(h0, .inr (2, [.ref q1, .ref q3, .ref q5, .ref q7, .null, .null, .null, .int 0, .int 0, .int 0, .int 0, .int 0])), (q9, .inl (b10, 8, .inr (.inl (fun _ => 0))))] := hD
  have hK : va_K (dC, dI) vC [(b10, .long)] s := hK
  refine W.widen (k := 5) (n := 10278) (Nat.le_of_ble_eq_true rfl) (Nat.le_of_ble_eq_true rfl) ?_
  refine va_putF (D := (dC, dI)) (ci := 2) (v := .ref q9) (ty := .array .long) (C := RX3) (T := TX3) (N := 12) hx hb hw inX3 tyX3 tyX3_ok nmX3 hown hK hP hD hS 0 rfl rfl 4 (by decide) (hw _ mP_253) (fun _ h9 => h9) rfl hin rfl (tyX3_ok 4 (by decide)) rfl rfl (Nat.le_of_ble_eq_true rfl) dX3_init_45 (fun H locs hP hD hS => ?_)
  have hP : va_P (dC, dI) vC [(h0, .inr (2, [.ref q1, .ref q3, .ref q5, .ref q7, .ref q9, .null, .null, .int 0, .int 0, .int 0, .int 0, .int 0])), (q9, .inl (b10, 8, .inr (.inl (fun _ => 0))))] H := hP
  have hD : va_D A [(h0, .inr (2, [.ref q1, .ref q3, .ref q5, .ref q7, .ref q9, .null, .null, .int 0, .int 0, .int 0, .int 0, .int 0])), (q9, .inl (b10, 8, .inr (.inl (fun _ => 0))))] := hD
  have hP := hP.sub (ws' := [(h0, .inr (2, [.ref q1, .ref q3, .ref q5, .ref q7, .ref q9, .null, .null, .int 0, .int 0, .int 0, .int 0, .int 0]))]) [0] rfl
  have hD := hD.sub (ws' := [(h0, .inr (2, [.ref q1, .ref q3, .ref q5, .ref q7, .ref q9, .null, .null, .int 0, .int 0, .int 0, .int 0, .int 0]))]) [0] (by decide) rfl
  have hK := hK.sub (tys' := []) [] rfl
  refine lv_aload_n hx hb dX3_init_48 rfl (lv_at hl 0 rfl) ?_
  refine lv_bipush (v := 8) hx hb dX3_init_49 (by decide) ?_
  refine va_newa (atype := .long) (ty := .long) (a0 := (8, .inr (.inl (fun _ => 0)))) hx hb (hw _ mP_184) rfl hK hP hD hS hA (fun _ => rfl) (by decide +kernel) (by decide +kernel) (by decide +kernel) (Nat.le_of_ble_eq_true rfl) (Nat.le_of_ble_eq_true rfl) dX3_init_51 (fun q11 b12 H hK hP hD hS => ?_)
  have hP : va_P (dC, dI) vC [(h0, .inr (2, [.ref q1, .ref q3, .ref q5, .ref q7, .ref q9, .null, .null, .int 0, .int 0, .int 0, .int 0, .int 0])), (q11, .inl (b12, 8, .inr (.inl (fun _ => 0))))] H := hP
  have hD : va_D A [(h0, .inr (2, [.ref q1, .ref q3, .ref q5, .ref q7, .ref q9, .null, .null, .int 0, .int 0, .int 0, .int 0, .int 0])), (q11, .inl (b12, 8, .inr (.inl (fun _ => 0))))] := hD
  have hK : va_K (dC, dI) vC [(b12, .long)] s := hK
  refine W.widen (k := 6) (n := 10286) (Nat.le_of_ble_eq_true rfl) (Nat.le_of_ble_eq_true rfl) ?_
  refine va_putF (D := (dC, dI)) (ci := 2) (v := .ref q11) (ty := .array .long) (C := RX3) (T := TX3) (N := 12) hx hb hw inX3 tyX3 tyX3_ok nmX3 hown hK hP hD hS 0 rfl rfl 5 (by decide) (hw _ mP_254) (fun _ h9 => h9) rfl hin rfl (tyX3_ok 5 (by decide)) rfl rfl (Nat.le_of_ble_eq_true rfl) dX3_init_53 (fun H locs hP hD hS => ?_)
  have hP : va_P (dC, dI) vC [(h0, .inr (2, [.ref q1, .ref q3, .ref q5, .ref q7, .ref q9, .ref q11, .null, .int 0, .int 0, .int 0, .int 0, .int 0])), (q11, .inl (b12, 8, .inr (.inl (fun _ => 0))))] H := hP
  have hD : va_D A [(h0, .inr (2, [.ref q1, .ref q3, .ref q5, .ref q7, .ref q9, .ref q11, .null, .int 0, .int 0, .int 0, .int 0, .int 0])), (q11, .inl (b12, 8, .inr (.inl (fun _ => 0))))] := hD
  have hP := hP.sub (ws' := [(h0, .inr (2, [.ref q1, .ref q3, .ref q5, .ref q7, .ref q9, .ref q11, .null, .int 0, .int 0, .int 0, .int 0, .int 0]))]) [0] rfl
  have hD := hD.sub (ws' := [(h0, .inr (2, [.ref q1, .ref q3, .ref q5, .ref q7, .ref q9, .ref q11, .null, .int 0, .int 0, .int 0, .int 0, .int 0]))]) [0] (by decide) rfl
  have hK := hK.sub (tys' := []) [] rfl
  refine W.widen (k := 6) (n := 10286) (Nat.le_of_ble_eq_true rfl) (Nat.le_of_ble_eq_true rfl) ?_
  exact W.vret hx hb hr (fun t ht hW => ⟨⟨(), rfl, trivial, q1, q3, q5, q7, q9, q11, by rw [ht]; exact hP, va_K.moved hW.alike hK, hD⟩, hS.F ht⟩) hS.2.2 dX3_init_56
set_option maxHeartbeats 4000000 in
set_option maxRecDepth 100000 in
theorem tX7_init_n1 (l : Launch) (dC : Nat → ClassId) (dI : Nat → Nat → Nat) (h0 : Nat) (sz : Nat) (kK kV : Nat) : Met l yX7_init (.code yX7_init cX7_init 1 none :: wP) ({ frames := 2, cells := 24, slots := 22066, locals := 43 }) (Pe dC dI [.ref h0] sz [(h0, .inr (4, [.null, .null, .null, .null, .null, .null, .null, .int 0, .int 0, .int 0, .int 0]))] [] kK kV) (va_Qv (fun (_ : Unit) => True) (fun (_ : Unit) (t : State) => ∃ (q1 : Nat) (q5 : Nat) (q9 : Nat) (q13 : Nat) (q17 : Nat) (q21 : Nat) (q29 : Nat) (q3 : Nat) (q7 : Nat) (q11 : Nat) (q15 : Nat) (q19 : Nat), va_P (dC, dI) vC [(h0, .inr (4, [.ref q1, .ref q5, .ref q9, .ref q13, .ref q17, .ref q21, .ref q29, .int 0, .int 0, .int 0, .int 0])), (q1, .inr (5, [.int 12, .int 30, .ref q3, .int 0])), (q5, .inr (5, [.int 6, .int 1000, .ref q7, .int 0])), (q9, .inr (5, [.int 4, .int 150, .ref q11, .int 0])), (q13, .inr (5, [.int 4, .int 400, .ref q15, .int 0])), (q17, .inr (5, [.int 6, .int 500, .ref q19, .int 0]))] t.heap ∧ va_K (dC, dI) vC [] t ∧ va_D (va_A [(h0, .inr (4, [.null, .null, .null, .null, .null, .null, .null, .int 0, .int 0, .int 0, .int 0]))] sz) [(h0, .inr (4, [.ref q1, .ref q5, .ref q9, .ref q13, .ref q17, .ref q21, .ref q29, .int 0, .int 0, .int 0, .int 0])), (q1, .inr (5, [.int 12, .int 30, .ref q3, .int 0])), (q5, .inr (5, [.int 6, .int 1000, .ref q7, .int 0])), (q9, .inr (5, [.int 4, .int 150, .ref q11, .int 0])), (q13, .inr (5, [.int 4, .int 400, .ref q15, .int 0])), (q17, .inr (5, [.int 6, .int 500, .ref q19, .int 0]))]) (va_A [(h0, .inr (4, [.null, .null, .null, .null, .null, .null, .null, .int 0, .int 0, .int 0, .int 0]))] sz)) 24 22066 (va_A [(h0, .inr (4, [.null, .null, .null, .null, .null, .null, .null, .int 0, .int 0, .int 0, .int 0]))] sz) := by
  refine Met.ofW (cc := cX7_init) (maxL := 1) (ret := none) (by decide) rfl ?_
  intro p e s m args below meth c s₁ B hml hv
  obtain ⟨rfl, hsz, hP, hK, hD0, hX0⟩ := hv
  have hx := B.exec
  have hb := B.bytes
  have hr := B.returns
  have hts := atoms_spec (ws := .code yX7_init cX7_init 1 none :: wP) B.pre
  have hw : ∀ w ∈ wP, w.before _ s = true := fun w h => hts w (List.mem_cons_of_mem _ h)
  have hown : s.vm.findClass RX7 = some m.cls := findClass_of_methodNamed B.named
  have hlocks := B.notSynchronized
  have hin : meth.name = "<init>" := (name_of_methodNamed B.named B.method).1
  subst hsz
  have hD := hD0.self (sz := s.heap.size)
  generalize hAe : va_A [(h0, .inr (4, [.null, .null, .null, .null, .null, .null, .null, .int 0, .int 0, .int 0, .int 0]))] s.heap.size = A at hD hX0 ⊢
  have hX := hX0
  have hA : ∀ q : Nat, s.heap.size ≤ q → A q := fun q h => by rw [← hAe]; exact Or.inr h
  have hS : va_S A s.heap s.heap [] := va_S.rf
  have hP : va_P (dC, dI) vC [(h0, .inr (4, [.null, .null, .null, .null, .null, .null, .null, .int 0, .int 0, .int 0, .int 0]))] s.heap := hP
  have hl := lv_entry ([.ref h0]) (n := 1) (Nat.le_of_ble_eq_true rfl)
  rw [lg_entry_eq]
  generalize (lg_sl ([.ref h0]) ++ List.replicate (1 - (lg_sl ([.ref h0])).length) Slot.unset).toArray = ls at hl ⊢
  have hl : lv_has ls 1 [(0, .ref h0)] := hl
  refine lv_aload_n hx hb dX7_init_0 rfl (lv_at hl 0 rfl) ?_
  refine W.objInit hx hb hown (hw _ mP_224) (hw _ mP_28) (hw _ mP_29) rfl (by rw [hml]; exact hl.1) rfl dX7_init_1 (Nat.le_of_ble_eq_true rfl) (Nat.le_of_ble_eq_true rfl) ?_
  refine W.eq (g2 := F0 m 4 ls []) rfl ?_
  refine lv_aload_n hx hb dX7_init_4 rfl (lv_at hl 0 rfl) ?_
  refine va_new (ci := 5) (fs := [.int 0, .int 0, .null, .int 0]) (C := RX9) (T := TX9) (N := 4) hx hb hw inX9 tyX9 tyX9_ok hown (hw _ mP_225) (hw _ mP_170) (hw _ mP_171) hK hP hD hS hA rfl dfX9 (Nat.le_of_ble_eq_true rfl) (Nat.le_of_ble_eq_true rfl) dX7_init_5 (fun q1 H hP hD hS => ?_)
  have hP : va_P (dC, dI) vC [(h0, .inr (4, [.null, .null, .null, .null, .null, .null, .null, .int 0, .int 0, .int 0, .int 0])), (q1, .inr (5, [.int 0, .int 0, .null, .int 0]))] H := hP
  have hD : va_D A [(h0, .inr (4, [.null, .null, .null, .null, .null, .null, .null, .int 0, .int 0, .int 0, .int 0])), (q1, .inr (5, [.int 0, .int 0, .null, .int 0]))] := hD
  refine W.widen (k := 1) (n := 4) (Nat.le_of_ble_eq_true rfl) (Nat.le_of_ble_eq_true rfl) ?_
  refine lv_dup hx hb dX7_init_8 rfl ?_
  refine lv_bipush (v := 12) hx hb dX7_init_9 (by decide) ?_
  refine lv_bipush (v := 30) hx hb dX7_init_11 (by decide) ?_
  have hPc := hP.sub (ws' := [(q1, .inr (5, [.int 0, .int 0, .null, .int 0]))]) [1] rfl
  have hDc := hD.sub (ws' := [(q1, .inr (5, [.int 0, .int 0, .null, .int 0]))]) [1] (by decide) rfl
  have hKc := hK.sub (tys' := []) [] rfl
  have hFc := va_free (wc := [(q1, .inr (5, [.int 0, .int 0, .null, .int 0]))]) hD hS hA [1] rfl
  refine va_callv (va_runI (As := [.int 12, .int 30]) (rest := [.ref q1, .ref h0]) ⟨hx, hb, hml, hown, hw⟩ (tX9_init_n2 l dC dI q1 H.size) ⟨callB_of 2 hw (gd mP_180) rfl rfl rfl (hw _ mP_171) (hw _ mP_226) hdX9_init ⟨Nat.le_of_ble_eq_true rfl, Nat.le_of_ble_eq_true rfl⟩, rfl, (hw _ mP_182)⟩ ⟨fbz, prz hPc hKc hDc⟩ rfl rfl hl.1 rfl (lv_room (Nat.le_of_ble_eq_true rfl)) dX7_init_13 ⟨Nat.le_of_ble_eq_true rfl, Nat.le_of_ble_eq_true rfl⟩) hS (fun q _ h => hFc q h) hFc (fun u2 t H1 locs ht hvm hpo hB hz1 hk1 hS => ?_)
  obtain ⟨q3, b4, hP1, hK1, hD1⟩ := hB
  rw [ht] at hP1
  have hK1 := va_K.moved hvm.symm hK1
  obtain ⟨hP, hD⟩ := va_join (wr := [(h0, .inr (4, [.null, .null, .null, .null, .null, .null, .null, .int 0, .int 0, .int 0, .int 0]))]) (w1 := [(q1, .inr (5, [.int 12, .int 30, .ref q3, .int 0])), (q3, .inl (b4, 360, .inl (fun _ => 0)))]) hP hD [1] [0] rfl rfl (by decide) (by decide) hk1 hFc hP1 hD1
  have hK := (hK.sub (tys' := []) [] rfl).app hK1
  generalize H1 = H at hP hS ⊢
  have hP : va_P (dC, dI) vC [(h0, .inr (4, [.null, .null, .null, .null, .null, .null, .null, .int 0, .int 0, .int 0, .int 0])), (q1, .inr (5, [.int 12, .int 30, .ref q3, .int 0])), (q3, .inl (b4, 360, .inl (fun _ => 0)))] H := hP
  have hD : va_D A [(h0, .inr (4, [.null, .null, .null, .null, .null, .null, .null, .int 0, .int 0, .int 0, .int 0])), (q1, .inr (5, [.int 12, .int 30, .ref q3, .int 0])), (q3, .inl (b4, 360, .inl (fun _ => 0)))] := hD
  have hK : va_K (dC, dI) vC [(b4, .int)] s := hK
  refine W.widen (k := 2) (n := 364) (Nat.le_of_ble_eq_true rfl) (Nat.le_of_ble_eq_true rfl) ?_
  refine va_putF (D := (dC, dI)) (ci := 4) (v := .ref q1) (ty := .object "PaletteHouse$Table") (C := RX7) (T := TX7) (N := 11) hx hb hw inX7 tyX7 tyX7_ok nmX7 hown hK hP hD hS 0 rfl rfl 0 (by decide) (hw _ mP_227) (fun _ h9 => h9) rfl hin rfl (tyX7_ok 0 (by decide)) rfl rfl (Nat.le_of_ble_eq_true rfl) dX7_init_16 (fun H locs hP hD hS => ?_)
  have hP : va_P (dC, dI) vC [(h0, .inr (4, [.ref q1, .null, .null, .null, .null, .null, .null, .int 0, .int 0, .int 0, .int 0])), (q1, .inr (5, [.int 12, .int 30, .ref q3, .int 0])), (q3, .inl (b4, 360, .inl (fun _ => 0)))] H := hP
  have hD : va_D A [(h0, .inr (4, [.ref q1, .null, .null, .null, .null, .null, .null, .int 0, .int 0, .int 0, .int 0])), (q1, .inr (5, [.int 12, .int 30, .ref q3, .int 0])), (q3, .inl (b4, 360, .inl (fun _ => 0)))] := hD
  have hP := hP.sub (ws' := [(h0, .inr (4, [.ref q1, .null, .null, .null, .null, .null, .null, .int 0, .int 0, .int 0, .int 0])), (q1, .inr (5, [.int 12, .int 30, .ref q3, .int 0]))]) [0, 1] rfl
  have hD := hD.sub (ws' := [(h0, .inr (4, [.ref q1, .null, .null, .null, .null, .null, .null, .int 0, .int 0, .int 0, .int 0])), (q1, .inr (5, [.int 12, .int 30, .ref q3, .int 0]))]) [0, 1] (by decide) rfl
  have hK := hK.sub (tys' := []) [] rfl
  refine lv_aload_n hx hb dX7_init_19 rfl (lv_at hl 0 rfl) ?_
  refine va_new (ci := 5) (fs := [.int 0, .int 0, .null, .int 0]) (C := RX9) (T := TX9) (N := 4) hx hb hw inX9 tyX9 tyX9_ok hown (hw _ mP_225) (hw _ mP_170) (hw _ mP_171) hK hP hD hS hA rfl dfX9 (Nat.le_of_ble_eq_true rfl) (Nat.le_of_ble_eq_true rfl) dX7_init_20 (fun q5 H hP hD hS => ?_)
  have hP : va_P (dC, dI) vC [(h0, .inr (4, [.ref q1, .null, .null, .null, .null, .null, .null, .int 0, .int 0, .int 0, .int 0])), (q1, .inr (5, [.int 12, .int 30, .ref q3, .int 0])), (q5, .inr (5, [.int 0, .int 0, .null, .int 0]))] H := hP
  have hD : va_D A [(h0, .inr (4, [.ref q1, .null, .null, .null, .null, .null, .null, .int 0, .int 0, .int 0, .int 0])), (q1, .inr (5, [.int 12, .int 30, .ref q3, .int 0])), (q5, .inr (5, [.int 0, .int 0, .null, .int 0]))] := hD
  refine W.widen (k := 3) (n := 368) (Nat.le_of_ble_eq_true rfl) (Nat.le_of_ble_eq_true rfl) ?_
  refine lv_dup hx hb dX7_init_23 rfl ?_
  refine lv_bipush (v := 6) hx hb dX7_init_24 (by decide) ?_
  refine lv_sipush (v := 1000) hx hb dX7_init_26 (by decide) ?_
  have hPc := hP.sub (ws' := [(q5, .inr (5, [.int 0, .int 0, .null, .int 0]))]) [2] rfl
  have hDc := hD.sub (ws' := [(q5, .inr (5, [.int 0, .int 0, .null, .int 0]))]) [2] (by decide) rfl
  have hKc := hK.sub (tys' := []) [] rfl
  have hFc := va_free (wc := [(q5, .inr (5, [.int 0, .int 0, .null, .int 0]))]) hD hS hA [2] rfl
  refine va_callv (va_runI (As := [.int 6, .int 1000]) (rest := [.ref q5, .ref h0]) ⟨hx, hb, hml, hown, hw⟩ (tX9_init_n3 l dC dI q5 H.size) ⟨callB_of 2 hw (gd mP_180) rfl rfl rfl (hw _ mP_171) (hw _ mP_226) hdX9_init ⟨Nat.le_of_ble_eq_true rfl, Nat.le_of_ble_eq_true rfl⟩, rfl, (hw _ mP_182)⟩ ⟨fbz, prz hPc hKc hDc⟩ rfl rfl hl.1 rfl (lv_room (Nat.le_of_ble_eq_true rfl)) dX7_init_29 ⟨Nat.le_of_ble_eq_true rfl, Nat.le_of_ble_eq_true rfl⟩) hS (fun q _ h => hFc q h) hFc (fun u6 t H1 locs ht hvm hpo hB hz1 hk1 hS => ?_)
  obtain ⟨q7, b8, hP1, hK1, hD1⟩ := hB
  rw [ht] at hP1
  have hK1 := va_K.moved hvm.symm hK1
  obtain ⟨hP, hD⟩ := va_join (wr := [(h0, .inr (4, [.ref q1, .null, .null, .null, .null, .null, .null, .int 0, .int 0, .int 0, .int 0])), (q1, .inr (5, [.int 12, .int 30, .ref q3, .int 0]))]) (w1 := [(q5, .inr (5, [.int 6, .int 1000, .ref q7, .int 0])), (q7, .inl (b8, 6000, .inl (fun _ => 0)))]) hP hD [2] [0, 1] rfl rfl (by decide) (by decide) hk1 hFc hP1 hD1
  have hK := (hK.sub (tys' := []) [] rfl).app hK1
  generalize H1 = H at hP hS ⊢
  have hP : va_P (dC, dI) vC [(h0, .inr (4, [.ref q1, .null, .null, .null, .null, .null, .null, .int 0, .int 0, .int 0, .int 0])), (q1, .inr (5, [.int 12, .int 30, .ref q3, .int 0])), (q5, .inr (5, [.int 6, .int 1000, .ref q7, .int 0])), (q7, .inl (b8, 6000, .inl (fun _ => 0)))] H := hP
  have hD : va_D A [(h0, .inr (4, [.ref q1, .null, .null, .null, .null, .null, .null, .int 0, .int 0, .int 0, .int 0])), (q1, .inr (5, [.int 12, .int 30, .ref q3, .int 0])), (q5, .inr (5, [.int 6, .int 1000, .ref q7, .int 0])), (q7, .inl (b8, 6000, .inl (fun _ => 0)))] := hD
  have hK : va_K (dC, dI) vC [(b8, .int)] s := hK
  refine W.widen (k := 4) (n := 6368) (Nat.le_of_ble_eq_true rfl) (Nat.le_of_ble_eq_true rfl) ?_
  refine va_putF (D := (dC, dI)) (ci := 4) (v := .ref q5) (ty := .object "PaletteHouse$Table") (C := RX7) (T := TX7) (N := 11) hx hb hw inX7 tyX7 tyX7_ok nmX7 hown hK hP hD hS 0 rfl rfl 1 (by decide) (hw _ mP_228) (fun _ h9 => h9) rfl hin rfl (tyX7_ok 1 (by decide)) rfl rfl (Nat.le_of_ble_eq_true rfl) dX7_init_32 (fun H locs hP hD hS => ?_)
  have hP : va_P (dC, dI) vC [(h0, .inr (4, [.ref q1, .ref q5, .null, .null, .null, .null, .null, .int 0, .int 0, .int 0, .int 0])), (q1, .inr (5, [.int 12, .int 30, .ref q3, .int 0])), (q5, .inr (5, [.int 6, .int 1000, .ref q7, .int 0])), (q7, .inl (b8, 6000, .inl (fun _ => 0)))] H := hP
  have hD : va_D A [(h0, .inr (4, [.ref q1, .ref q5, .null, .null, .null, .null, .null, .int 0, .int 0, .int 0, .int 0])), (q1, .inr (5, [.int 12, .int 30, .ref q3, .int 0])), (q5, .inr (5, [.int 6, .int 1000, .ref q7, .int 0])), (q7, .inl (b8, 6000, .inl (fun _ => 0)))] := hD
  have hP := hP.sub (ws' := [(h0, .inr (4, [.ref q1, .ref q5, .null, .null, .null, .null, .null, .int 0, .int 0, .int 0, .int 0])), (q1, .inr (5, [.int 12, .int 30, .ref q3, .int 0])), (q5, .inr (5, [.int 6, .int 1000, .ref q7, .int 0]))]) [0, 1, 2] rfl
  have hD := hD.sub (ws' := [(h0, .inr (4, [.ref q1, .ref q5, .null, .null, .null, .null, .null, .int 0, .int 0, .int 0, .int 0])), (q1, .inr (5, [.int 12, .int 30, .ref q3, .int 0])), (q5, .inr (5, [.int 6, .int 1000, .ref q7, .int 0]))]) [0, 1, 2] (by decide) rfl
  have hK := hK.sub (tys' := []) [] rfl
  refine lv_aload_n hx hb dX7_init_35 rfl (lv_at hl 0 rfl) ?_
  refine va_new (ci := 5) (fs := [.int 0, .int 0, .null, .int 0]) (C := RX9) (T := TX9) (N := 4) hx hb hw inX9 tyX9 tyX9_ok hown (hw _ mP_225) (hw _ mP_170) (hw _ mP_171) hK hP hD hS hA rfl dfX9 (Nat.le_of_ble_eq_true rfl) (Nat.le_of_ble_eq_true rfl) dX7_init_36 (fun q9 H hP hD hS => ?_)
  have hP : va_P (dC, dI) vC [(h0, .inr (4, [.ref q1, .ref q5, .null, .null, .null, .null, .null, .int 0, .int 0, .int 0, .int 0])), (q1, .inr (5, [.int 12, .int 30, .ref q3, .int 0])), (q5, .inr (5, [.int 6, .int 1000, .ref q7, .int 0])), (q9, .inr (5, [.int 0, .int 0, .null, .int 0]))] H := hP
  have hD : va_D A [(h0, .inr (4, [.ref q1, .ref q5, .null, .null, .null, .null, .null, .int 0, .int 0, .int 0, .int 0])), (q1, .inr (5, [.int 12, .int 30, .ref q3, .int 0])), (q5, .inr (5, [.int 6, .int 1000, .ref q7, .int 0])), (q9, .inr (5, [.int 0, .int 0, .null, .int 0]))] := hD
  refine W.widen (k := 5) (n := 6372) (Nat.le_of_ble_eq_true rfl) (Nat.le_of_ble_eq_true rfl) ?_
  refine lv_dup hx hb dX7_init_39 rfl ?_
  refine lv_iconst (v := 4) hx hb dX7_init_40 (by decide) ?_
  refine lv_sipush (v := 150) hx hb dX7_init_41 (by decide) ?_
  have hPc := hP.sub (ws' := [(q9, .inr (5, [.int 0, .int 0, .null, .int 0]))]) [3] rfl
  have hDc := hD.sub (ws' := [(q9, .inr (5, [.int 0, .int 0, .null, .int 0]))]) [3] (by decide) rfl
  have hKc := hK.sub (tys' := []) [] rfl
  have hFc := va_free (wc := [(q9, .inr (5, [.int 0, .int 0, .null, .int 0]))]) hD hS hA [3] rfl
  refine va_callv (va_runI (As := [.int 4, .int 150]) (rest := [.ref q9, .ref h0]) ⟨hx, hb, hml, hown, hw⟩ (tX9_init_n4 l dC dI q9 H.size) ⟨callB_of 2 hw (gd mP_180) rfl rfl rfl (hw _ mP_171) (hw _ mP_226) hdX9_init ⟨Nat.le_of_ble_eq_true rfl, Nat.le_of_ble_eq_true rfl⟩, rfl, (hw _ mP_182)⟩ ⟨fbz, prz hPc hKc hDc⟩ rfl rfl hl.1 rfl (lv_room (Nat.le_of_ble_eq_true rfl)) dX7_init_44 ⟨Nat.le_of_ble_eq_true rfl, Nat.le_of_ble_eq_true rfl⟩) hS (fun q _ h => hFc q h) hFc (fun u10 t H1 locs ht hvm hpo hB hz1 hk1 hS => ?_)
  obtain ⟨q11, b12, hP1, hK1, hD1⟩ := hB
  rw [ht] at hP1
  have hK1 := va_K.moved hvm.symm hK1
  obtain ⟨hP, hD⟩ := va_join (wr := [(h0, .inr (4, [.ref q1, .ref q5, .null, .null, .null, .null, .null, .int 0, .int 0, .int 0, .int 0])), (q1, .inr (5, [.int 12, .int 30, .ref q3, .int 0])), (q5, .inr (5, [.int 6, .int 1000, .ref q7, .int 0]))]) (w1 := [(q9, .inr (5, [.int 4, .int 150, .ref q11, .int 0])), (q11, .inl (b12, 600, .inl (fun _ => 0)))]) hP hD [3] [0, 1, 2] rfl rfl (by decide) (by decide) hk1 hFc hP1 hD1
  have hK := (hK.sub (tys' := []) [] rfl).app hK1
  generalize H1 = H at hP hS ⊢
  have hP : va_P (dC, dI) vC [(h0, .inr (4, [.ref q1, .ref q5, .null, .null, .null, .null, .null, .int 0, .int 0, .int 0, .int 0])), (q1, .inr (5, [.int 12, .int 30, .ref q3, .int 0])), (q5, .inr (5, [.int 6, .int 1000, .ref q7, .int 0])), (q9, .inr (5, [.int 4, .int 150, .ref q11, .int 0])), (q11, .inl (b12, 600, .inl (fun _ => 0)))] H := hP
  have hD : va_D A [(h0, .inr (4, [.ref q1, .ref q5, .null, .null, .null, .null, .null, .int 0, .int 0, .int 0, .int 0])), (q1, .inr (5, [.int 12, .int 30, .ref q3, .int 0])), (q5, .inr (5, [.int 6, .int 1000, .ref q7, .int 0])), (q9, .inr (5, [.int 4, .int 150, .ref q11, .int 0])), (q11, .inl (b12, 600, .inl (fun _ => 0)))] := hD
  have hK : va_K (dC, dI) vC [(b12, .int)] s := hK
  refine W.widen (k := 6) (n := 6972) (Nat.le_of_ble_eq_true rfl) (Nat.le_of_ble_eq_true rfl) ?_
  refine va_putF (D := (dC, dI)) (ci := 4) (v := .ref q9) (ty := .object "PaletteHouse$Table") (C := RX7) (T := TX7) (N := 11) hx hb hw inX7 tyX7 tyX7_ok nmX7 hown hK hP hD hS 0 rfl rfl 2 (by decide) (hw _ mP_229) (fun _ h9 => h9) rfl hin rfl (tyX7_ok 2 (by decide)) rfl rfl (Nat.le_of_ble_eq_true rfl) dX7_init_47 (fun H locs hP hD hS => ?_)
  have hP : va_P (dC, dI) vC [(h0, .inr (4, [.ref q1, .ref q5, .ref q9, .null, .null, .null, .null, .int 0, .int 0, .int 0, .int 0])), (q1, .inr (5, [.int 12, .int 30, .ref q3, .int 0])), (q5, .inr (5, [.int 6, .int 1000, .ref q7, .int 0])), (q9, .inr (5, [.int 4, .int 150, .ref q11, .int 0])), (q11, .inl (b12, 600, .inl (fun _ => 0)))] H := hP
  have hD : va_D A [(h0, .inr (4, [.ref q1, .ref q5, .ref q9, .null, .null, .null, .null, .int 0, .int 0, .int 0, .int 0])), (q1, .inr (5, [.int 12, .int 30, .ref q3, .int 0])), (q5, .inr (5, [.int 6, .int 1000, .ref q7, .int 0])), (q9, .inr (5, [.int 4, .int 150, .ref q11, .int 0])), (q11, .inl (b12, 600, .inl (fun _ => 0)))] := hD
  have hP := hP.sub (ws' := [(h0, .inr (4, [.ref q1, .ref q5, .ref q9, .null, .null, .null, .null, .int 0, .int 0, .int 0, .int 0])), (q1, .inr (5, [.int 12, .int 30, .ref q3, .int 0])), (q5, .inr (5, [.int 6, .int 1000, .ref q7, .int 0])), (q9, .inr (5, [.int 4, .int 150, .ref q11, .int 0]))]) [0, 1, 2, 3] rfl
  have hD := hD.sub (ws' := [(h0, .inr (4, [.ref q1, .ref q5, .ref q9, .null, .null, .null, .null, .int 0, .int 0, .int 0, .int 0])), (q1, .inr (5, [.int 12, .int 30, .ref q3, .int 0])), (q5, .inr (5, [.int 6, .int 1000, .ref q7, .int 0])), (q9, .inr (5, [.int 4, .int 150, .ref q11, .int 0]))]) [0, 1, 2, 3] (by decide) rfl
  have hK := hK.sub (tys' := []) [] rfl
  refine lv_aload_n hx hb dX7_init_50 rfl (lv_at hl 0 rfl) ?_
  refine va_new (ci := 5) (fs := [.int 0, .int 0, .null, .int 0]) (C := RX9) (T := TX9) (N := 4) hx hb hw inX9 tyX9 tyX9_ok hown (hw _ mP_225) (hw _ mP_170) (hw _ mP_171) hK hP hD hS hA rfl dfX9 (Nat.le_of_ble_eq_true rfl) (Nat.le_of_ble_eq_true rfl) dX7_init_51 (fun q13 H hP hD hS => ?_)
  have hP : va_P (dC, dI) vC [(h0, .inr (4, [.ref q1, .ref q5, .ref q9, .null, .null, .null, .null, .int 0, .int 0, .int 0, .int 0])), (q1, .inr (5, [.int 12, .int 30, .ref q3, .int 0])), (q5, .inr (5, [.int 6, .int 1000, .ref q7, .int 0])), (q9, .inr (5, [.int 4, .int 150, .ref q11, .int 0])), (q13, .inr (5, [.int 0, .int 0, .null, .int 0]))] H := hP
  have hD : va_D A [(h0, .inr (4, [.ref q1, .ref q5, .ref q9, .null, .null, .null, .null, .int 0, .int 0, .int 0, .int 0])), (q1, .inr (5, [.int 12, .int 30, .ref q3, .int 0])), (q5, .inr (5, [.int 6, .int 1000, .ref q7, .int 0])), (q9, .inr (5, [.int 4, .int 150, .ref q11, .int 0])), (q13, .inr (5, [.int 0, .int 0, .null, .int 0]))] := hD
  refine W.widen (k := 7) (n := 6976) (Nat.le_of_ble_eq_true rfl) (Nat.le_of_ble_eq_true rfl) ?_
  refine lv_dup hx hb dX7_init_54 rfl ?_
  refine lv_iconst (v := 4) hx hb dX7_init_55 (by decide) ?_
  refine lv_sipush (v := 400) hx hb dX7_init_56 (by decide) ?_
  have hPc := hP.sub (ws' := [(q13, .inr (5, [.int 0, .int 0, .null, .int 0]))]) [4] rfl
  have hDc := hD.sub (ws' := [(q13, .inr (5, [.int 0, .int 0, .null, .int 0]))]) [4] (by decide) rfl
  have hKc := hK.sub (tys' := []) [] rfl
  have hFc := va_free (wc := [(q13, .inr (5, [.int 0, .int 0, .null, .int 0]))]) hD hS hA [4] rfl
  refine va_callv (va_runI (As := [.int 4, .int 400]) (rest := [.ref q13, .ref h0]) ⟨hx, hb, hml, hown, hw⟩ (tX9_init_n5 l dC dI q13 H.size) ⟨callB_of 2 hw (gd mP_180) rfl rfl rfl (hw _ mP_171) (hw _ mP_226) hdX9_init ⟨Nat.le_of_ble_eq_true rfl, Nat.le_of_ble_eq_true rfl⟩, rfl, (hw _ mP_182)⟩ ⟨fbz, prz hPc hKc hDc⟩ rfl rfl hl.1 rfl (lv_room (Nat.le_of_ble_eq_true rfl)) dX7_init_59 ⟨Nat.le_of_ble_eq_true rfl, Nat.le_of_ble_eq_true rfl⟩) hS (fun q _ h => hFc q h) hFc (fun u14 t H1 locs ht hvm hpo hB hz1 hk1 hS => ?_)
  obtain ⟨q15, b16, hP1, hK1, hD1⟩ := hB
  rw [ht] at hP1
  have hK1 := va_K.moved hvm.symm hK1
  obtain ⟨hP, hD⟩ := va_join (wr := [(h0, .inr (4, [.ref q1, .ref q5, .ref q9, .null, .null, .null, .null, .int 0, .int 0, .int 0, .int 0])), (q1, .inr (5, [.int 12, .int 30, .ref q3, .int 0])), (q5, .inr (5, [.int 6, .int 1000, .ref q7, .int 0])), (q9, .inr (5, [.int 4, .int 150, .ref q11, .int 0]))]) (w1 := [(q13, .inr (5, [.int 4, .int 400, .ref q15, .int 0])), (q15, .inl (b16, 1600, .inl (fun _ => 0)))]) hP hD [4] [0, 1, 2, 3] rfl rfl (by decide) (by decide) hk1 hFc hP1 hD1
  have hK := (hK.sub (tys' := []) [] rfl).app hK1
  generalize H1 = H at hP hS ⊢
  have hP : va_P (dC, dI) vC [(h0, .inr (4, [.ref q1, .ref q5, .ref q9, .null, .null, .null, .null, .int 0, .int 0, .int 0, .int 0])), (q1, .inr (5, [.int 12, .int 30, .ref q3, .int 0])), (q5, .inr (5, [.int 6, .int 1000, .ref q7, .int 0])), (q9, .inr (5, [.int 4, .int 150, .ref q11, .int 0])), (q13, .inr (5, [.int 4, .int 400, .ref q15, .int 0])), (q15, .inl (b16, 1600, .inl (fun _ => 0)))] H := hP
  have hD : va_D A [(h0, .inr (4, [.ref q1, .ref q5, .ref q9, .null, .null, .null, .null, .int 0, .int 0, .int 0, .int 0])), (q1, .inr (5, [.int 12, .int 30, .ref q3, .int 0])), (q5, .inr (5, [.int 6, .int 1000, .ref q7, .int 0])), (q9, .inr (5, [.int 4, .int 150, .ref q11, .int 0])), (q13, .inr (5, [.int 4, .int 400, .ref q15, .int 0])), (q15, .inl (b16, 1600, .inl (fun _ => 0)))] := hD
  have hK : va_K (dC, dI) vC [(b16, .int)] s := hK
  refine W.widen (k := 8) (n := 8576) (Nat.le_of_ble_eq_true rfl) (Nat.le_of_ble_eq_true rfl) ?_
  refine va_putF (D := (dC, dI)) (ci := 4) (v := .ref q13) (ty := .object "PaletteHouse$Table") (C := RX7) (T := TX7) (N := 11) hx hb hw inX7 tyX7 tyX7_ok nmX7 hown hK hP hD hS 0 rfl rfl 3 (by decide) (hw _ mP_230) (fun _ h9 => h9) rfl hin rfl (tyX7_ok 3 (by decide)) rfl rfl (Nat.le_of_ble_eq_true rfl) dX7_init_62 (fun H locs hP hD hS => ?_)
  have hP : va_P (dC, dI) vC [(h0, .inr (4, [.ref q1, .ref q5, .ref q9, .ref q13, .null, .null, .null, .int 0, .int 0, .int 0, .int 0])), (q1, .inr (5, [.int 12, .int 30, .ref q3, .int 0])), (q5, .inr (5, [.int 6, .int 1000, .ref q7, .int 0])), (q9, .inr (5, [.int 4, .int 150, .ref q11, .int 0])), (q13, .inr (5, [.int 4, .int 400, .ref q15, .int 0])), (q15, .inl (b16, 1600, .inl (fun _ => 0)))] H := hP
  have hD : va_D A [(h0, .inr (4, [.ref q1, .ref q5, .ref q9, .ref q13, .null, .null, .null, .int 0, .int 0, .int 0, .int 0])), (q1, .inr (5, [.int 12, .int 30, .ref q3, .int 0])), (q5, .inr (5, [.int 6, .int 1000, .ref q7, .int 0])), (q9, .inr (5, [.int 4, .int 150, .ref q11, .int 0])), (q13, .inr (5, [.int 4, .int 400, .ref q15, .int 0])), (q15, .inl (b16, 1600, .inl (fun _ => 0)))] := hD
  have hP := hP.sub (ws' := [(h0, .inr (4, [.ref q1, .ref q5, .ref q9, .ref q13, .null, .null, .null, .int 0, .int 0, .int 0, .int 0])), (q1, .inr (5, [.int 12, .int 30, .ref q3, .int 0])), (q5, .inr (5, [.int 6, .int 1000, .ref q7, .int 0])), (q9, .inr (5, [.int 4, .int 150, .ref q11, .int 0])), (q13, .inr (5, [.int 4, .int 400, .ref q15, .int 0]))]) [0, 1, 2, 3, 4] rfl
  have hD := hD.sub (ws' := [(h0, .inr (4, [.ref q1, .ref q5, .ref q9, .ref q13, .null, .null, .null, .int 0, .int 0, .int 0, .int 0])), (q1, .inr (5, [.int 12, .int 30, .ref q3, .int 0])), (q5, .inr (5, [.int 6, .int 1000, .ref q7, .int 0])), (q9, .inr (5, [.int 4, .int 150, .ref q11, .int 0])), (q13, .inr (5, [.int 4, .int 400, .ref q15, .int 0]))]) [0, 1, 2, 3, 4] (by decide) rfl
  have hK := hK.sub (tys' := []) [] rfl
  refine lv_aload_n hx hb dX7_init_65 rfl (lv_at hl 0 rfl) ?_
  refine va_new (ci := 5) (fs := [.int 0, .int 0, .null, .int 0]) (C := RX9) (T := TX9) (N := 4) hx hb hw inX9 tyX9 tyX9_ok hown (hw _ mP_225) (hw _ mP_170) (hw _ mP_171) hK hP hD hS hA rfl dfX9 (Nat.le_of_ble_eq_true rfl) (Nat.le_of_ble_eq_true rfl) dX7_init_66 (fun q17 H hP hD hS => ?_)
  have hP : va_P (dC, dI) vC [(h0, .inr (4, [.ref q1, .ref q5, .ref q9, .ref q13, .null, .null, .null, .int 0, .int 0, .int 0, .int 0])), (q1, .inr (5, [.int 12, .int 30, .ref q3, .int 0])), (q5, .inr (5, [.int 6, .int 1000, .ref q7, .int 0])), (q9, .inr (5, [.int 4, .int 150, .ref q11, .int 0])), (q13, .inr (5, [.int 4, .int 400, .ref q15, .int 0])), (q17, .inr (5, [.int 0, .int 0, .null, .int 0]))] H := hP
  have hD : va_D A [(h0, .inr (4, [.ref q1, .ref q5, .ref q9, .ref q13, .null, .null, .null, .int 0, .int 0, .int 0, .int 0])), (q1, .inr (5, [.int 12, .int 30, .ref q3, .int 0])), (q5, .inr (5, [.int 6, .int 1000, .ref q7, .int 0])), (q9, .inr (5, [.int 4, .int 150, .ref q11, .int 0])), (q13, .inr (5, [.int 4, .int 400, .ref q15, .int 0])), (q17, .inr (5, [.int 0, .int 0, .null, .int 0]))] := hD
  refine W.widen (k := 9) (n := 8580) (Nat.le_of_ble_eq_true rfl) (Nat.le_of_ble_eq_true rfl) ?_
  refine lv_dup hx hb dX7_init_69 rfl ?_
  refine lv_bipush (v := 6) hx hb dX7_init_70 (by decide) ?_
  refine lv_sipush (v := 500) hx hb dX7_init_72 (by decide) ?_
  have hPc := hP.sub (ws' := [(q17, .inr (5, [.int 0, .int 0, .null, .int 0]))]) [5] rfl
  have hDc := hD.sub (ws' := [(q17, .inr (5, [.int 0, .int 0, .null, .int 0]))]) [5] (by decide) rfl
  have hKc := hK.sub (tys' := []) [] rfl
  have hFc := va_free (wc := [(q17, .inr (5, [.int 0, .int 0, .null, .int 0]))]) hD hS hA [5] rfl
  refine va_callv (va_runI (As := [.int 6, .int 500]) (rest := [.ref q17, .ref h0]) ⟨hx, hb, hml, hown, hw⟩ (tX9_init_n6 l dC dI q17 H.size) ⟨callB_of 2 hw (gd mP_180) rfl rfl rfl (hw _ mP_171) (hw _ mP_226) hdX9_init ⟨Nat.le_of_ble_eq_true rfl, Nat.le_of_ble_eq_true rfl⟩, rfl, (hw _ mP_182)⟩ ⟨fbz, prz hPc hKc hDc⟩ rfl rfl hl.1 rfl (lv_room (Nat.le_of_ble_eq_true rfl)) dX7_init_75 ⟨Nat.le_of_ble_eq_true rfl, Nat.le_of_ble_eq_true rfl⟩) hS (fun q _ h => hFc q h) hFc (fun u18 t H1 locs ht hvm hpo hB hz1 hk1 hS => ?_)
  obtain ⟨q19, b20, hP1, hK1, hD1⟩ := hB
  rw [ht] at hP1
  have hK1 := va_K.moved hvm.symm hK1
  obtain ⟨hP, hD⟩ := va_join (wr := [(h0, .inr (4, [.ref q1, .ref q5, .ref q9, .ref q13, .null, .null, .null, .int 0, .int 0, .int 0, .int 0])), (q1, .inr (5, [.int 12, .int 30, .ref q3, .int 0])), (q5, .inr (5, [.int 6, .int 1000, .ref q7, .int 0])), (q9, .inr (5, [.int 4, .int 150, .ref q11, .int 0])), (q13, .inr (5, [.int 4, .int 400, .ref q15, .int 0]))]) (w1 := [(q17, .inr (5, [.int 6, .int 500, .ref q19, .int 0])), (q19, .inl (b20, 3000, .inl (fun _ => 0)))]) hP hD [5] [0, 1, 2, 3, 4] rfl rfl (by decide) (by decide) hk1 hFc hP1 hD1
  have hK := (hK.sub (tys' := []) [] rfl).app hK1
  generalize H1 = H at hP hS ⊢
  have hP : va_P (dC, dI) vC [(h0, .inr (4, [.ref q1, .ref q5, .ref q9, .ref q13, .null, .null, .null, .int 0, .int 0, .int 0, .int 0])), (q1, .inr (5, [.int 12, .int 30, .ref q3, .int 0])), (q5, .inr (5, [.int 6, .int 1000, .ref q7, .int 0])), (q9, .inr (5, [.int 4, .int 150, .ref q11, .int 0])), (q13, .inr (5, [.int 4, .int 400, .ref q15, .int 0])), (q17, .inr (5, [.int 6, .int 500, .ref q19, .int 0])), (q19, .inl (b20, 3000, .inl (fun _ => 0)))] H := hP
  have hD : va_D A [(h0, .inr (4, [.ref q1, .ref q5, .ref q9, .ref q13, .null, .null, .null, .int 0, .int 0, .int 0, .int 0])), (q1, .inr (5, [.int 12, .int 30, .ref q3, .int 0])), (q5, .inr (5, [.int 6, .int 1000, .ref q7, .int 0])), (q9, .inr (5, [.int 4, .int 150, .ref q11, .int 0])), (q13, .inr (5, [.int 4, .int 400, .ref q15, .int 0])), (q17, .inr (5, [.int 6, .int 500, .ref q19, .int 0])), (q19, .inl (b20, 3000, .inl (fun _ => 0)))] := hD
  have hK : va_K (dC, dI) vC [(b20, .int)] s := hK
  refine W.widen (k := 10) (n := 11580) (Nat.le_of_ble_eq_true rfl) (Nat.le_of_ble_eq_true rfl) ?_
  refine va_putF (D := (dC, dI)) (ci := 4) (v := .ref q17) (ty := .object "PaletteHouse$Table") (C := RX7) (T := TX7) (N := 11) hx hb hw inX7 tyX7 tyX7_ok nmX7 hown hK hP hD hS 0 rfl rfl 4 (by decide) (hw _ mP_231) (fun _ h9 => h9) rfl hin rfl (tyX7_ok 4 (by decide)) rfl rfl (Nat.le_of_ble_eq_true rfl) dX7_init_78 (fun H locs hP hD hS => ?_)
  have hP : va_P (dC, dI) vC [(h0, .inr (4, [.ref q1, .ref q5, .ref q9, .ref q13, .ref q17, .null, .null, .int 0, .int 0, .int 0, .int 0])), (q1, .inr (5, [.int 12, .int 30, .ref q3, .int 0])), (q5, .inr (5, [.int 6, .int 1000, .ref q7, .int 0])), (q9, .inr (5, [.int 4, .int 150, .ref q11, .int 0])), (q13, .inr (5, [.int 4, .int 400, .ref q15, .int 0])), (q17, .inr (5, [.int 6, .int 500, .ref q19, .int 0])), (q19, .inl (b20, 3000, .inl (fun _ => 0)))] H := hP
  have hD : va_D A [(h0, .inr (4, [.ref q1, .ref q5, .ref q9, .ref q13, .ref q17, .null, .null, .int 0, .int 0, .int 0, .int 0])), (q1, .inr (5, [.int 12, .int 30, .ref q3, .int 0])), (q5, .inr (5, [.int 6, .int 1000, .ref q7, .int 0])), (q9, .inr (5, [.int 4, .int 150, .ref q11, .int 0])), (q13, .inr (5, [.int 4, .int 400, .ref q15, .int 0])), (q17, .inr (5, [.int 6, .int 500, .ref q19, .int 0])), (q19, .inl (b20, 3000, .inl (fun _ => 0)))] := hD
  have hP := hP.sub (ws' := [(h0, .inr (4, [.ref q1, .ref q5, .ref q9, .ref q13, .ref q17, .null, .null, .int 0, .int 0, .int 0, .int 0])), (q1, .inr (5, [.int 12, .int 30, .ref q3, .int 0])), (q5, .inr (5, [.int 6, .int 1000, .ref q7, .int 0])), (q9, .inr (5, [.int 4, .int 150, .ref q11, .int 0])), (q13, .inr (5, [.int 4, .int 400, .ref q15, .int 0])), (q17, .inr (5, [.int 6, .int 500, .ref q19, .int 0]))]) [0, 1, 2, 3, 4, 5] rfl
  have hD := hD.sub (ws' := [(h0, .inr (4, [.ref q1, .ref q5, .ref q9, .ref q13, .ref q17, .null, .null, .int 0, .int 0, .int 0, .int 0])), (q1, .inr (5, [.int 12, .int 30, .ref q3, .int 0])), (q5, .inr (5, [.int 6, .int 1000, .ref q7, .int 0])), (q9, .inr (5, [.int 4, .int 150, .ref q11, .int 0])), (q13, .inr (5, [.int 4, .int 400, .ref q15, .int 0])), (q17, .inr (5, [.int 6, .int 500, .ref q19, .int 0]))]) [0, 1, 2, 3, 4, 5] (by decide) rfl
  have hK := hK.sub (tys' := []) [] rfl
  refine lv_aload_n hx hb dX7_init_81 rfl (lv_at hl 0 rfl) ?_
  refine va_new (ci := 0) (fs := [.null, .null, .null, .null, .null, .null, .int 0, .int 0]) (C := RX1) (T := TX1) (N := 8) hx hb hw inX1 tyX1 tyX1_ok hown (hw _ mP_232) (hw _ mP_233) (hw _ mP_234) hK hP hD hS hA rfl dfX1 (Nat.le_of_ble_eq_true rfl) (Nat.le_of_ble_eq_true rfl) dX7_init_82 (fun q21 H hP hD hS => ?_)
  have hP : va_P (dC, dI) vC [(h0, .inr (4, [.ref q1, .ref q5, .ref q9, .ref q13, .ref q17, .null, .null, .int 0, .int 0, .int 0, .int 0])), (q1, .inr (5, [.int 12, .int 30, .ref q3, .int 0])), (q5, .inr (5, [.int 6, .int 1000, .ref q7, .int 0])), (q9, .inr (5, [.int 4, .int 150, .ref q11, .int 0])), (q13, .inr (5, [.int 4, .int 400, .ref q15, .int 0])), (q17, .inr (5, [.int 6, .int 500, .ref q19, .int 0])), (q21, .inr (0, [.null, .null, .null, .null, .null, .null, .int 0, .int 0]))] H := hP
  have hD : va_D A [(h0, .inr (4, [.ref q1, .ref q5, .ref q9, .ref q13, .ref q17, .null, .null, .int 0, .int 0, .int 0, .int 0])), (q1, .inr (5, [.int 12, .int 30, .ref q3, .int 0])), (q5, .inr (5, [.int 6, .int 1000, .ref q7, .int 0])), (q9, .inr (5, [.int 4, .int 150, .ref q11, .int 0])), (q13, .inr (5, [.int 4, .int 400, .ref q15, .int 0])), (q17, .inr (5, [.int 6, .int 500, .ref q19, .int 0])), (q21, .inr (0, [.null, .null, .null, .null, .null, .null, .int 0, .int 0]))] := hD
  refine W.widen (k := 11) (n := 11588) (Nat.le_of_ble_eq_true rfl) (Nat.le_of_ble_eq_true rfl) ?_
  refine lv_dup hx hb dX7_init_85 rfl ?_
  have hPc := hP.sub (ws' := [(q21, .inr (0, [.null, .null, .null, .null, .null, .null, .int 0, .int 0]))]) [6] rfl
  have hDc := hD.sub (ws' := [(q21, .inr (0, [.null, .null, .null, .null, .null, .null, .int 0, .int 0]))]) [6] (by decide) rfl
  have hKc := hK.sub (tys' := []) [] rfl
  have hFc := va_free (wc := [(q21, .inr (0, [.null, .null, .null, .null, .null, .null, .int 0, .int 0]))]) hD hS hA [6] rfl
  refine va_callv (va_runIN (As := []) (rest := [.ref q21, .ref h0]) ⟨hx, hb, hml, hown, hw⟩ (tX1_init_n1 l dC dI q21 H.size) ⟨va_cnB (host := "PaletteHouse") 0 hw (gd mP_242) rfl rfl rfl hX.nX734 (hw _ mP_234) hdX1_init ⟨Nat.le_of_ble_eq_true rfl, Nat.le_of_ble_eq_true rfl⟩, rfl, (hw _ mP_243)⟩ ⟨fbz, prz hPc hKc hDc⟩ rfl rfl hl.1 rfl (lv_room (Nat.le_of_ble_eq_true rfl)) dX7_init_86 ⟨Nat.le_of_ble_eq_true rfl, Nat.le_of_ble_eq_true rfl⟩) hS (fun q _ h => hFc q h) hFc (fun u22 t H1 locs ht hvm hpo hB hz1 hk1 hS => ?_)
  obtain ⟨q23, q24, q25, q26, q27, q28, hP1, hK1, hD1⟩ := hB
  rw [ht] at hP1
  have hK1 := va_K.moved hvm.symm hK1
  obtain ⟨hP, hD⟩ := va_join (wr := [(h0, .inr (4, [.ref q1, .ref q5, .ref q9, .ref q13, .ref q17, .null, .null, .int 0, .int 0, .int 0, .int 0])), (q1, .inr (5, [.int 12, .int 30, .ref q3, .int 0])), (q5, .inr (5, [.int 6, .int 1000, .ref q7, .int 0])), (q9, .inr (5, [.int 4, .int 150, .ref q11, .int 0])), (q13, .inr (5, [.int 4, .int 400, .ref q15, .int 0])), (q17, .inr (5, [.int 6, .int 500, .ref q19, .int 0]))]) (w1 := [(q21, .inr (0, [.ref q23, .ref q24, .ref q25, .ref q26, .ref q27, .ref q28, .int 0, .int 0]))]) hP hD [6] [0, 1, 2, 3, 4, 5] rfl rfl (by decide) (by decide) hk1 hFc hP1 hD1
  have hK := (hK.sub (tys' := []) [] rfl).app hK1
  generalize H1 = H at hP hS ⊢
  have hP : va_P (dC, dI) vC [(h0, .inr (4, [.ref q1, .ref q5, .ref q9, .ref q13, .ref q17, .null, .null, .int 0, .int 0, .int 0, .int 0])), (q1, .inr (5, [.int 12, .int 30, .ref q3, .int 0])), (q5, .inr (5, [.int 6, .int 1000, .ref q7, .int 0])), (q9, .inr (5, [.int 4, .int 150, .ref q11, .int 0])), (q13, .inr (5, [.int 4, .int 400, .ref q15, .int 0])), (q17, .inr (5, [.int 6, .int 500, .ref q19, .int 0])), (q21, .inr (0, [.ref q23, .ref q24, .ref q25, .ref q26, .ref q27, .ref q28, .int 0, .int 0]))] H := hP
  have hD : va_D A [(h0, .inr (4, [.ref q1, .ref q5, .ref q9, .ref q13, .ref q17, .null, .null, .int 0, .int 0, .int 0, .int 0])), (q1, .inr (5, [.int 12, .int 30, .ref q3, .int 0])), (q5, .inr (5, [.int 6, .int 1000, .ref q7, .int 0])), (q9, .inr (5, [.int 4, .int 150, .ref q11, .int 0])), (q13, .inr (5, [.int 4, .int 400, .ref q15, .int 0])), (q17, .inr (5, [.int 6, .int 500, .ref q19, .int 0])), (q21, .inr (0, [.ref q23, .ref q24, .ref q25, .ref q26, .ref q27, .ref q28, .int 0, .int 0]))] := hD
  have hK : va_K (dC, dI) vC [] s := hK
  refine W.widen (k := 17) (n := 11768) (Nat.le_of_ble_eq_true rfl) (Nat.le_of_ble_eq_true rfl) ?_
  refine va_putF (D := (dC, dI)) (ci := 4) (v := .ref q21) (ty := .object "PaletteHouse$Graph") (C := RX7) (T := TX7) (N := 11) hx hb hw inX7 tyX7 tyX7_ok nmX7 hown hK hP hD hS 0 rfl rfl 5 (by decide) (hw _ mP_244) (fun _ h9 => h9) rfl hin rfl (tyX7_ok 5 (by decide)) rfl rfl (Nat.le_of_ble_eq_true rfl) dX7_init_89 (fun H locs hP hD hS => ?_)
  have hP : va_P (dC, dI) vC [(h0, .inr (4, [.ref q1, .ref q5, .ref q9, .ref q13, .ref q17, .ref q21, .null, .int 0, .int 0, .int 0, .int 0])), (q1, .inr (5, [.int 12, .int 30, .ref q3, .int 0])), (q5, .inr (5, [.int 6, .int 1000, .ref q7, .int 0])), (q9, .inr (5, [.int 4, .int 150, .ref q11, .int 0])), (q13, .inr (5, [.int 4, .int 400, .ref q15, .int 0])), (q17, .inr (5, [.int 6, .int 500, .ref q19, .int 0])), (q21, .inr (0, [.ref q23, .ref q24, .ref q25, .ref q26, .ref q27, .ref q28, .int 0, .int 0]))] H := hP
  have hD : va_D A [(h0, .inr (4, [.ref q1, .ref q5, .ref q9, .ref q13, .ref q17, .ref q21, .null, .int 0, .int 0, .int 0, .int 0])), (q1, .inr (5, [.int 12, .int 30, .ref q3, .int 0])), (q5, .inr (5, [.int 6, .int 1000, .ref q7, .int 0])), (q9, .inr (5, [.int 4, .int 150, .ref q11, .int 0])), (q13, .inr (5, [.int 4, .int 400, .ref q15, .int 0])), (q17, .inr (5, [.int 6, .int 500, .ref q19, .int 0])), (q21, .inr (0, [.ref q23, .ref q24, .ref q25, .ref q26, .ref q27, .ref q28, .int 0, .int 0]))] := hD
  have hP := hP.sub (ws' := [(h0, .inr (4, [.ref q1, .ref q5, .ref q9, .ref q13, .ref q17, .ref q21, .null, .int 0, .int 0, .int 0, .int 0])), (q1, .inr (5, [.int 12, .int 30, .ref q3, .int 0])), (q5, .inr (5, [.int 6, .int 1000, .ref q7, .int 0])), (q9, .inr (5, [.int 4, .int 150, .ref q11, .int 0])), (q13, .inr (5, [.int 4, .int 400, .ref q15, .int 0])), (q17, .inr (5, [.int 6, .int 500, .ref q19, .int 0]))]) [0, 1, 2, 3, 4, 5] rfl
  have hD := hD.sub (ws' := [(h0, .inr (4, [.ref q1, .ref q5, .ref q9, .ref q13, .ref q17, .ref q21, .null, .int 0, .int 0, .int 0, .int 0])), (q1, .inr (5, [.int 12, .int 30, .ref q3, .int 0])), (q5, .inr (5, [.int 6, .int 1000, .ref q7, .int 0])), (q9, .inr (5, [.int 4, .int 150, .ref q11, .int 0])), (q13, .inr (5, [.int 4, .int 400, .ref q15, .int 0])), (q17, .inr (5, [.int 6, .int 500, .ref q19, .int 0]))]) [0, 1, 2, 3, 4, 5] (by decide) rfl
  have hK := hK.sub (tys' := []) [] rfl
  refine lv_aload_n hx hb dX7_init_92 rfl (lv_at hl 0 rfl) ?_
  refine va_new (ci := 2) (fs := [.null, .null, .null, .null, .null, .null, .null, .int 0, .int 0, .int 0, .int 0, .int 0]) (C := RX3) (T := TX3) (N := 12) hx hb hw inX3 tyX3 tyX3_ok hown (hw _ mP_245) (hw _ mP_246) (hw _ mP_247) hK hP hD hS hA rfl dfX3 (Nat.le_of_ble_eq_true rfl) (Nat.le_of_ble_eq_true rfl) dX7_init_93 (fun q29 H hP hD hS => ?_)
  have hP : va_P (dC, dI) vC [(h0, .inr (4, [.ref q1, .ref q5, .ref q9, .ref q13, .ref q17, .ref q21, .null, .int 0, .int 0, .int 0, .int 0])), (q1, .inr (5, [.int 12, .int 30, .ref q3, .int 0])), (q5, .inr (5, [.int 6, .int 1000, .ref q7, .int 0])), (q9, .inr (5, [.int 4, .int 150, .ref q11, .int 0])), (q13, .inr (5, [.int 4, .int 400, .ref q15, .int 0])), (q17, .inr (5, [.int 6, .int 500, .ref q19, .int 0])), (q29, .inr (2, [.null, .null, .null, .null, .null, .null, .null, .int 0, .int 0, .int 0, .int 0, .int 0]))] H := hP
  have hD : va_D A [(h0, .inr (4, [.ref q1, .ref q5, .ref q9, .ref q13, .ref q17, .ref q21, .null, .int 0, .int 0, .int 0, .int 0])), (q1, .inr (5, [.int 12, .int 30, .ref q3, .int 0])), (q5, .inr (5, [.int 6, .int 1000, .ref q7, .int 0])), (q9, .inr (5, [.int 4, .int 150, .ref q11, .int 0])), (q13, .inr (5, [.int 4, .int 400, .ref q15, .int 0])), (q17, .inr (5, [.int 6, .int 500, .ref q19, .int 0])), (q29, .inr (2, [.null, .null, .null, .null, .null, .null, .null, .int 0, .int 0, .int 0, .int 0, .int 0]))] := hD
  refine W.widen (k := 18) (n := 11780) (Nat.le_of_ble_eq_true rfl) (Nat.le_of_ble_eq_true rfl) ?_
  refine lv_dup hx hb dX7_init_96 rfl ?_
  have hPc := hP.sub (ws' := [(q29, .inr (2, [.null, .null, .null, .null, .null, .null, .null, .int 0, .int 0, .int 0, .int 0, .int 0]))]) [6] rfl
  have hDc := hD.sub (ws' := [(q29, .inr (2, [.null, .null, .null, .null, .null, .null, .null, .int 0, .int 0, .int 0, .int 0, .int 0]))]) [6] (by decide) rfl
  have hKc := hK.sub (tys' := []) [] rfl
  have hFc := va_free (wc := [(q29, .inr (2, [.null, .null, .null, .null, .null, .null, .null, .int 0, .int 0, .int 0, .int 0, .int 0]))]) hD hS hA [6] rfl
  refine va_callv (va_runIN (As := []) (rest := [.ref q29, .ref h0]) ⟨hx, hb, hml, hown, hw⟩ (tX3_init_n1 l dC dI q29 H.size) ⟨va_cnB (host := "PaletteHouse") 0 hw (gd mP_255) rfl rfl rfl hX.nX741 (hw _ mP_247) hdX3_init ⟨Nat.le_of_ble_eq_true rfl, Nat.le_of_ble_eq_true rfl⟩, rfl, (hw _ mP_256)⟩ ⟨fbz, prz hPc hKc hDc⟩ rfl rfl hl.1 rfl (lv_room (Nat.le_of_ble_eq_true rfl)) dX7_init_97 ⟨Nat.le_of_ble_eq_true rfl, Nat.le_of_ble_eq_true rfl⟩) hS (fun q _ h => hFc q h) hFc (fun u30 t H1 locs ht hvm hpo hB hz1 hk1 hS => ?_)
  obtain ⟨q31, q32, q33, q34, q35, q36, hP1, hK1, hD1⟩ := hB
  rw [ht] at hP1
  have hK1 := va_K.moved hvm.symm hK1
  obtain ⟨hP, hD⟩ := va_join (wr := [(h0, .inr (4, [.ref q1, .ref q5, .ref q9, .ref q13, .ref q17, .ref q21, .null, .int 0, .int 0, .int 0, .int 0])), (q1, .inr (5, [.int 12, .int 30, .ref q3, .int 0])), (q5, .inr (5, [.int 6, .int 1000, .ref q7, .int 0])), (q9, .inr (5, [.int 4, .int 150, .ref q11, .int 0])), (q13, .inr (5, [.int 4, .int 400, .ref q15, .int 0])), (q17, .inr (5, [.int 6, .int 500, .ref q19, .int 0]))]) (w1 := [(q29, .inr (2, [.ref q31, .ref q32, .ref q33, .ref q34, .ref q35, .ref q36, .null, .int 0, .int 0, .int 0, .int 0, .int 0]))]) hP hD [6] [0, 1, 2, 3, 4, 5] rfl rfl (by decide) (by decide) hk1 hFc hP1 hD1
  have hK := (hK.sub (tys' := []) [] rfl).app hK1
  generalize H1 = H at hP hS ⊢
  have hP : va_P (dC, dI) vC [(h0, .inr (4, [.ref q1, .ref q5, .ref q9, .ref q13, .ref q17, .ref q21, .null, .int 0, .int 0, .int 0, .int 0])), (q1, .inr (5, [.int 12, .int 30, .ref q3, .int 0])), (q5, .inr (5, [.int 6, .int 1000, .ref q7, .int 0])), (q9, .inr (5, [.int 4, .int 150, .ref q11, .int 0])), (q13, .inr (5, [.int 4, .int 400, .ref q15, .int 0])), (q17, .inr (5, [.int 6, .int 500, .ref q19, .int 0])), (q29, .inr (2, [.ref q31, .ref q32, .ref q33, .ref q34, .ref q35, .ref q36, .null, .int 0, .int 0, .int 0, .int 0, .int 0]))] H := hP
  have hD : va_D A [(h0, .inr (4, [.ref q1, .ref q5, .ref q9, .ref q13, .ref q17, .ref q21, .null, .int 0, .int 0, .int 0, .int 0])), (q1, .inr (5, [.int 12, .int 30, .ref q3, .int 0])), (q5, .inr (5, [.int 6, .int 1000, .ref q7, .int 0])), (q9, .inr (5, [.int 4, .int 150, .ref q11, .int 0])), (q13, .inr (5, [.int 4, .int 400, .ref q15, .int 0])), (q17, .inr (5, [.int 6, .int 500, .ref q19, .int 0])), (q29, .inr (2, [.ref q31, .ref q32, .ref q33, .ref q34, .ref q35, .ref q36, .null, .int 0, .int 0, .int 0, .int 0, .int 0]))] := hD
  have hK : va_K (dC, dI) vC [] s := hK
  refine W.widen (k := 24) (n := 22066) (Nat.le_of_ble_eq_true rfl) (Nat.le_of_ble_eq_true rfl) ?_
  refine va_putF (D := (dC, dI)) (ci := 4) (v := .ref q29) (ty := .object "PaletteHouse$Life") (C := RX7) (T := TX7) (N := 11) hx hb hw inX7 tyX7 tyX7_ok nmX7 hown hK hP hD hS 0 rfl rfl 6 (by decide) (hw _ mP_257) (fun _ h9 => h9) rfl hin rfl (tyX7_ok 6 (by decide)) rfl rfl (Nat.le_of_ble_eq_true rfl) dX7_init_100 (fun H locs hP hD hS => ?_)
  have hP : va_P (dC, dI) vC [(h0, .inr (4, [.ref q1, .ref q5, .ref q9, .ref q13, .ref q17, .ref q21, .ref q29, .int 0, .int 0, .int 0, .int 0])), (q1, .inr (5, [.int 12, .int 30, .ref q3, .int 0])), (q5, .inr (5, [.int 6, .int 1000, .ref q7, .int 0])), (q9, .inr (5, [.int 4, .int 150, .ref q11, .int 0])), (q13, .inr (5, [.int 4, .int 400, .ref q15, .int 0])), (q17, .inr (5, [.int 6, .int 500, .ref q19, .int 0])), (q29, .inr (2, [.ref q31, .ref q32, .ref q33, .ref q34, .ref q35, .ref q36, .null, .int 0, .int 0, .int 0, .int 0, .int 0]))] H := hP
  have hD : va_D A [(h0, .inr (4, [.ref q1, .ref q5, .ref q9, .ref q13, .ref q17, .ref q21, .ref q29, .int 0, .int 0, .int 0, .int 0])), (q1, .inr (5, [.int 12, .int 30, .ref q3, .int 0])), (q5, .inr (5, [.int 6, .int 1000, .ref q7, .int 0])), (q9, .inr (5, [.int 4, .int 150, .ref q11, .int 0])), (q13, .inr (5, [.int 4, .int 400, .ref q15, .int 0])), (q17, .inr (5, [.int 6, .int 500, .ref q19, .int 0])), (q29, .inr (2, [.ref q31, .ref q32, .ref q33, .ref q34, .ref q35, .ref q36, .null, .int 0, .int 0, .int 0, .int 0, .int 0]))] := hD
  have hP := hP.sub (ws' := [(h0, .inr (4, [.ref q1, .ref q5, .ref q9, .ref q13, .ref q17, .ref q21, .ref q29, .int 0, .int 0, .int 0, .int 0])), (q1, .inr (5, [.int 12, .int 30, .ref q3, .int 0])), (q5, .inr (5, [.int 6, .int 1000, .ref q7, .int 0])), (q9, .inr (5, [.int 4, .int 150, .ref q11, .int 0])), (q13, .inr (5, [.int 4, .int 400, .ref q15, .int 0])), (q17, .inr (5, [.int 6, .int 500, .ref q19, .int 0]))]) [0, 1, 2, 3, 4, 5] rfl
  have hD := hD.sub (ws' := [(h0, .inr (4, [.ref q1, .ref q5, .ref q9, .ref q13, .ref q17, .ref q21, .ref q29, .int 0, .int 0, .int 0, .int 0])), (q1, .inr (5, [.int 12, .int 30, .ref q3, .int 0])), (q5, .inr (5, [.int 6, .int 1000, .ref q7, .int 0])), (q9, .inr (5, [.int 4, .int 150, .ref q11, .int 0])), (q13, .inr (5, [.int 4, .int 400, .ref q15, .int 0])), (q17, .inr (5, [.int 6, .int 500, .ref q19, .int 0]))]) [0, 1, 2, 3, 4, 5] (by decide) rfl
  have hK := hK.sub (tys' := []) [] rfl
  refine W.widen (k := 24) (n := 22066) (Nat.le_of_ble_eq_true rfl) (Nat.le_of_ble_eq_true rfl) ?_
  exact W.vret hx hb hr (fun t ht hW => ⟨⟨(), rfl, trivial, q1, q5, q9, q13, q17, q21, q29, q3, q7, q11, q15, q19, by rw [ht]; exact hP, va_K.moved hW.alike hK, hD⟩, hS.F ht⟩) hS.2.2 dX7_init_103
set_option maxHeartbeats 4000000 in
set_option maxRecDepth 100000 in
theorem tX9_cut_n1 (l : Launch) (dC : Nat → ClassId) (dI : Nat → Nat → Nat) (h0 h1 : Nat) (sz : Nat) (k0 : ClassId) : Met l yX9_cut (.code yX9_cut cX9_cut 1 none :: wP) ({ frames := 0, cells := 0, slots := 0, locals := 0 }) (Pz dC dI [.ref h0] sz [(h0, .inr (5, [.int 5, .int 1201, .ref h1, .int 0])), (h1, .inl (k0, 6005, .inl (fun _ => 0)))] [(k0, .int)]) (va_Qv (fun (_ : Unit) => True) (fun (_ : Unit) (t : State) => va_P (dC, dI) vC [(h0, .inr (5, [.int 5, .int 1201, .ref h1, .int 0])), (h1, .inl (k0, 6005, .inl (fun _ => 0)))] t.heap ∧ va_K (dC, dI) vC [(k0, .int)] t ∧ va_D (va_A [(h0, .inr (5, [.int 5, .int 1201, .ref h1, .int 0])), (h1, .inl (k0, 6005, .inl (fun _ => 0)))] sz) [(h0, .inr (5, [.int 5, .int 1201, .ref h1, .int 0])), (h1, .inl (k0, 6005, .inl (fun _ => 0)))]) (va_A [(h0, .inr (5, [.int 5, .int 1201, .ref h1, .int 0])), (h1, .inl (k0, 6005, .inl (fun _ => 0)))] sz)) 0 0 (va_A [(h0, .inr (5, [.int 5, .int 1201, .ref h1, .int 0])), (h1, .inl (k0, 6005, .inl (fun _ => 0)))] sz) := by
  refine Met.ofW (cc := cX9_cut) (maxL := 1) (ret := none) (by decide) rfl ?_
  intro p e s m args below meth c s₁ B hml hv
  obtain ⟨rfl, hsz, hP, hK, hD0⟩ := hv
  have hx := B.exec
  have hb := B.bytes
  have hr := B.returns
  have hts := atoms_spec (ws := .code yX9_cut cX9_cut 1 none :: wP) B.pre
  have hw : ∀ w ∈ wP, w.before _ s = true := fun w h => hts w (List.mem_cons_of_mem _ h)
  have hown : s.vm.findClass RX9 = some m.cls := findClass_of_methodNamed B.named
  have hlocks := B.notSynchronized
  subst hsz
  have hD := hD0.self (sz := s.heap.size)
  generalize hAe : va_A [(h0, .inr (5, [.int 5, .int 1201, .ref h1, .int 0])), (h1, .inl (k0, 6005, .inl (fun _ => 0)))] s.heap.size = A at hD ⊢
  have hA : ∀ q : Nat, s.heap.size ≤ q → A q := fun q h => by rw [← hAe]; exact Or.inr h
  have hS : va_S A s.heap s.heap [] := va_S.rf
  have hP : va_P (dC, dI) vC [(h0, .inr (5, [.int 5, .int 1201, .ref h1, .int 0])), (h1, .inl (k0, 6005, .inl (fun _ => 0)))] s.heap := hP
  have hl := lv_entry ([.ref h0]) (n := 1) (Nat.le_of_ble_eq_true rfl)
  rw [lg_entry_eq]
  generalize (lg_sl ([.ref h0]) ++ List.replicate (1 - (lg_sl ([.ref h0])).length) Slot.unset).toArray = ls at hl ⊢
  have hl : lv_has ls 1 [(0, .ref h0)] := hl
  refine lv_aload_n hx hb dX9_cut_0 rfl (lv_at hl 0 rfl) ?_
  refine lv_iconst (v := 0) hx hb dX9_cut_1 (by decide) ?_
  refine va_put (D := (dC, dI)) (ci := 5) (v := .int 0) (ty := .int) (C := RX9) (T := TX9) (N := 4) hx hb hw inX9 tyX9 tyX9_ok nmX9 hown hK hP hD hS 0 rfl rfl 3 (by decide) (hw _ mP_263) (fun _ h9 => h9) rfl (tyX9_ok 3 (by decide)) rfl rfl (Nat.le_of_ble_eq_true rfl) dX9_cut_2 (fun H locs hP hD hS => ?_)
  have hP : va_P (dC, dI) vC [(h0, .inr (5, [.int 5, .int 1201, .ref h1, .int 0])), (h1, .inl (k0, 6005, .inl (fun _ => 0)))] H := hP
  have hD : va_D A [(h0, .inr (5, [.int 5, .int 1201, .ref h1, .int 0])), (h1, .inl (k0, 6005, .inl (fun _ => 0)))] := hD
  refine W.widen (k := 0) (n := 0) (Nat.le_of_ble_eq_true rfl) (Nat.le_of_ble_eq_true rfl) ?_
  exact W.vret hx hb hr (fun t ht hW => ⟨⟨(), rfl, trivial, by rw [ht]; exact hP, va_K.moved hW.alike hK, hD⟩, hS.F ht⟩) hS.2.2 dX9_cut_5
set_option maxHeartbeats 4000000 in
set_option maxRecDepth 100000 in
theorem tX10_skipBlanks_n1 (l : Launch) (dC : Nat → ClassId) (dI : Nat → Nat → Nat) (h0 h1 h2 h3 h4 j0 : Nat) (sz : Nat) (k0 k1 k2 : ClassId) : Met l yX10_skipBlanks (.code yX10_skipBlanks cX10_skipBlanks 3 (some .int) :: wP) ({ frames := 0, cells := 0, slots := 0, locals := 0 }) (Pz dC dI [.ref h0, .int 0] sz [(h0, .inr (6, [.ref h1, .ref h2, .ref j0, .ref h3, .int 0, .int 0, .int (-1)])), (h1, .inr (5, [.int 5, .int 1201, .ref h4, .int 0])), (h2, .inl (k0, 1201, .inr (.inl (fun _ => 0)))), (h3, .inl (k1, 4000, .inl (fun _ => 0))), (h4, .inl (k2, 6005, .inl (fun _ => 0)))] [(k0, .long), (k1, .byte), (k2, .int)]) (va_Qi (fun (r : Int32) (_ : Unit) => r = 0) (fun (_ : Unit) (t : State) => va_P (dC, dI) vC [(h0, .inr (6, [.ref h1, .ref h2, .ref j0, .ref h3, .int 0, .int 0, .int (-1)])), (h1, .inr (5, [.int 5, .int 1201, .ref h4, .int 0])), (h2, .inl (k0, 1201, .inr (.inl (fun _ => 0)))), (h3, .inl (k1, 4000, .inl (fun _ => 0))), (h4, .inl (k2, 6005, .inl (fun _ => 0)))] t.heap ∧ va_K (dC, dI) vC [(k0, .long), (k1, .byte), (k2, .int)] t ∧ va_D (va_A [(h0, .inr (6, [.ref h1, .ref h2, .ref j0, .ref h3, .int 0, .int 0, .int (-1)])), (h1, .inr (5, [.int 5, .int 1201, .ref h4, .int 0])), (h2, .inl (k0, 1201, .inr (.inl (fun _ => 0)))), (h3, .inl (k1, 4000, .inl (fun _ => 0))), (h4, .inl (k2, 6005, .inl (fun _ => 0)))] sz) [(h0, .inr (6, [.ref h1, .ref h2, .ref j0, .ref h3, .int 0, .int 0, .int (-1)])), (h1, .inr (5, [.int 5, .int 1201, .ref h4, .int 0])), (h2, .inl (k0, 1201, .inr (.inl (fun _ => 0)))), (h3, .inl (k1, 4000, .inl (fun _ => 0))), (h4, .inl (k2, 6005, .inl (fun _ => 0)))]) (va_A [(h0, .inr (6, [.ref h1, .ref h2, .ref j0, .ref h3, .int 0, .int 0, .int (-1)])), (h1, .inr (5, [.int 5, .int 1201, .ref h4, .int 0])), (h2, .inl (k0, 1201, .inr (.inl (fun _ => 0)))), (h3, .inl (k1, 4000, .inl (fun _ => 0))), (h4, .inl (k2, 6005, .inl (fun _ => 0)))] sz)) 0 0 (va_A [(h0, .inr (6, [.ref h1, .ref h2, .ref j0, .ref h3, .int 0, .int 0, .int (-1)])), (h1, .inr (5, [.int 5, .int 1201, .ref h4, .int 0])), (h2, .inl (k0, 1201, .inr (.inl (fun _ => 0)))), (h3, .inl (k1, 4000, .inl (fun _ => 0))), (h4, .inl (k2, 6005, .inl (fun _ => 0)))] sz) := by
  refine Met.ofW (cc := cX10_skipBlanks) (maxL := 3) (ret := (some .int)) (by decide) rfl ?_
  intro p e s m args below meth c s₁ B hml hv
  obtain ⟨rfl, hsz, hP, hK, hD0⟩ := hv
  have hx := B.exec
  have hb := B.bytes
  have hr := B.returns
  have hts := atoms_spec (ws := .code yX10_skipBlanks cX10_skipBlanks 3 (some .int) :: wP) B.pre
  have hw : ∀ w ∈ wP, w.before _ s = true := fun w h => hts w (List.mem_cons_of_mem _ h)
  have hown : s.vm.findClass RX10 = some m.cls := findClass_of_methodNamed B.named
  have hlocks := B.notSynchronized
  subst hsz
  have hD := hD0.self (sz := s.heap.size)
  generalize hAe : va_A [(h0, .inr (6, [.ref h1, .ref h2, .ref j0, .ref h3, .int 0, .int 0, .int (-1)])), (h1, .inr (5, [.int 5, .int 1201, .ref h4, .int 0])), (h2, .inl (k0, 1201, .inr (.inl (fun _ => 0)))), (h3, .inl (k1, 4000, .inl (fun _ => 0))), (h4, .inl (k2, 6005, .inl (fun _ => 0)))] s.heap.size = A at hD ⊢
  have hA : ∀ q : Nat, s.heap.size ≤ q → A q := fun q h => by rw [← hAe]; exact Or.inr h
  have hS : va_S A s.heap s.heap [] := va_S.rf
  have hP : va_P (dC, dI) vC [(h0, .inr (6, [.ref h1, .ref h2, .ref j0, .ref h3, .int 0, .int 0, .int (-1)])), (h1, .inr (5, [.int 5, .int 1201, .ref h4, .int 0])), (h2, .inl (k0, 1201, .inr (.inl (fun _ => 0)))), (h3, .inl (k1, 4000, .inl (fun _ => 0))), (h4, .inl (k2, 6005, .inl (fun _ => 0)))] s.heap := hP
  have hl := lv_entry ([.ref h0, .int 0]) (n := 3) (Nat.le_of_ble_eq_true rfl)
  rw [lg_entry_eq]
  generalize (lg_sl ([.ref h0, .int 0]) ++ List.replicate (3 - (lg_sl ([.ref h0, .int 0])).length) Slot.unset).toArray = ls at hl ⊢
  have hl : lv_has ls 3 [(0, .ref h0), (1, .int 0)] := hl
  refine lv_iload_n hx hb dX10_skipBlanks_0 rfl (lv_at hl 1 rfl) ?_
  refine lv_istore_n (lv' := [(2, .int 0), (0, .ref h0), (1, .int 0)]) hx hb dX10_skipBlanks_1 rfl hl (by decide) rfl (fun ls hl => ?_)
  refine lv_iload_n hx hb dX10_skipBlanks_2 rfl (lv_at hl 0 rfl) ?_
  refine lv_aload_n hx hb dX10_skipBlanks_3 rfl (lv_at hl 1 rfl) ?_
  refine va_get (D := (dC, dI)) (ci := 6) (v := .int 0) (C := RX10) (T := TX10) (N := 7) hx hb hw inX10 hown hK hP 0 rfl rfl 4 (by decide) (hw _ mP_261) (fun _ h9 => h9) rfl dX10_skipBlanks_4 ?_
  refine lv_icmp_ge (tgt := 27) hx hb dX10_skipBlanks_7 (by decide) (fun _ => ?_) (fun c => absurd (by decide +kernel) c)
  refine lv_iload_n hx hb dX10_skipBlanks_27 rfl (lv_at hl 0 rfl) ?_
  refine W.widen (k := 0) (n := 0) (Nat.le_of_ble_eq_true rfl) (Nat.le_of_ble_eq_true rfl) ?_
  exact W.iret (v := 0) hx hb hr (fun t ht hW => ⟨⟨0, (), rfl, rfl, by rw [ht]; exact hP, va_K.moved hW.alike hK, hD⟩, hS.F ht⟩) hS.2.2 dX10_skipBlanks_28
set_option maxHeartbeats 4000000 in
set_option maxRecDepth 100000 in
theorem tX10_byteAt_n1 (l : Launch) (dC : Nat → ClassId) (dI : Nat → Nat → Nat) (h0 h1 h2 h3 h4 j0 : Nat) (sz : Nat) (k0 k1 k2 : ClassId) : Met l yX10_byteAt (.code yX10_byteAt cX10_byteAt 2 (some .int) :: wP) ({ frames := 0, cells := 0, slots := 0, locals := 0 }) (Pz dC dI [.ref h0, .int 0] sz [(h0, .inr (6, [.ref h1, .ref h2, .ref j0, .ref h3, .int 0, .int 0, .int (-1)])), (h1, .inr (5, [.int 5, .int 1201, .ref h4, .int 0])), (h2, .inl (k0, 1201, .inr (.inl (fun _ => 0)))), (h3, .inl (k1, 4000, .inl (fun _ => 0))), (h4, .inl (k2, 6005, .inl (fun _ => 0)))] [(k0, .long), (k1, .byte), (k2, .int)]) (va_Qi (fun (r : Int32) (_ : Unit) => r = (-1)) (fun (_ : Unit) (t : State) => va_P (dC, dI) vC [(h0, .inr (6, [.ref h1, .ref h2, .ref j0, .ref h3, .int 0, .int 0, .int (-1)])), (h1, .inr (5, [.int 5, .int 1201, .ref h4, .int 0])), (h2, .inl (k0, 1201, .inr (.inl (fun _ => 0)))), (h3, .inl (k1, 4000, .inl (fun _ => 0))), (h4, .inl (k2, 6005, .inl (fun _ => 0)))] t.heap ∧ va_K (dC, dI) vC [(k0, .long), (k1, .byte), (k2, .int)] t ∧ va_D (va_A [(h0, .inr (6, [.ref h1, .ref h2, .ref j0, .ref h3, .int 0, .int 0, .int (-1)])), (h1, .inr (5, [.int 5, .int 1201, .ref h4, .int 0])), (h2, .inl (k0, 1201, .inr (.inl (fun _ => 0)))), (h3, .inl (k1, 4000, .inl (fun _ => 0))), (h4, .inl (k2, 6005, .inl (fun _ => 0)))] sz) [(h0, .inr (6, [.ref h1, .ref h2, .ref j0, .ref h3, .int 0, .int 0, .int (-1)])), (h1, .inr (5, [.int 5, .int 1201, .ref h4, .int 0])), (h2, .inl (k0, 1201, .inr (.inl (fun _ => 0)))), (h3, .inl (k1, 4000, .inl (fun _ => 0))), (h4, .inl (k2, 6005, .inl (fun _ => 0)))]) (va_A [(h0, .inr (6, [.ref h1, .ref h2, .ref j0, .ref h3, .int 0, .int 0, .int (-1)])), (h1, .inr (5, [.int 5, .int 1201, .ref h4, .int 0])), (h2, .inl (k0, 1201, .inr (.inl (fun _ => 0)))), (h3, .inl (k1, 4000, .inl (fun _ => 0))), (h4, .inl (k2, 6005, .inl (fun _ => 0)))] sz)) 0 0 (va_A [(h0, .inr (6, [.ref h1, .ref h2, .ref j0, .ref h3, .int 0, .int 0, .int (-1)])), (h1, .inr (5, [.int 5, .int 1201, .ref h4, .int 0])), (h2, .inl (k0, 1201, .inr (.inl (fun _ => 0)))), (h3, .inl (k1, 4000, .inl (fun _ => 0))), (h4, .inl (k2, 6005, .inl (fun _ => 0)))] sz) := by
  refine Met.ofW (cc := cX10_byteAt) (maxL := 2) (ret := (some .int)) (by decide) rfl ?_
  intro p e s m args below meth c s₁ B hml hv
  obtain ⟨rfl, hsz, hP, hK, hD0⟩ := hv
  have hx := B.exec
  have hb := B.bytes
  have hr := B.returns
  have hts := atoms_spec (ws := .code yX10_byteAt cX10_byteAt 2 (some .int) :: wP) B.pre
  have hw : ∀ w ∈ wP, w.before _ s = true := fun w h => hts w (List.mem_cons_of_mem _ h)
  have hown : s.vm.findClass RX10 = some m.cls := findClass_of_methodNamed B.named
  have hlocks := B.notSynchronized
  subst hsz
  have hD := hD0.self (sz := s.heap.size)
  generalize hAe : va_A [(h0, .inr (6, [.ref h1, .ref h2, .ref j0, .ref h3, .int 0, .int 0, .int (-1)])), (h1, .inr (5, [.int 5, .int 1201, .ref h4, .int 0])), (h2, .inl (k0, 1201, .inr (.inl (fun _ => 0)))), (h3, .inl (k1, 4000, .inl (fun _ => 0))), (h4, .inl (k2, 6005, .inl (fun _ => 0)))] s.heap.size = A at hD ⊢
  have hA : ∀ q : Nat, s.heap.size ≤ q → A q := fun q h => by rw [← hAe]; exact Or.inr h
  have hS : va_S A s.heap s.heap [] := va_S.rf
  have hP : va_P (dC, dI) vC [(h0, .inr (6, [.ref h1, .ref h2, .ref j0, .ref h3, .int 0, .int 0, .int (-1)])), (h1, .inr (5, [.int 5, .int 1201, .ref h4, .int 0])), (h2, .inl (k0, 1201, .inr (.inl (fun _ => 0)))), (h3, .inl (k1, 4000, .inl (fun _ => 0))), (h4, .inl (k2, 6005, .inl (fun _ => 0)))] s.heap := hP
  have hl := lv_entry ([.ref h0, .int 0]) (n := 2) (Nat.le_of_ble_eq_true rfl)
  rw [lg_entry_eq]
  generalize (lg_sl ([.ref h0, .int 0]) ++ List.replicate (2 - (lg_sl ([.ref h0, .int 0])).length) Slot.unset).toArray = ls at hl ⊢
  have hl : lv_has ls 2 [(0, .ref h0), (1, .int 0)] := hl
  refine lv_aload_n hx hb dX10_byteAt_0 rfl (lv_at hl 0 rfl) ?_
  refine va_get (D := (dC, dI)) (ci := 6) (v := .ref h3) (C := RX10) (T := TX10) (N := 7) hx hb hw inX10 hown hK hP 0 rfl rfl 3 (by decide) (hw _ mP_260) (fun _ h9 => h9) rfl dX10_byteAt_1 ?_
  refine lv_ifnull hx hb dX10_byteAt_4 ?_
  refine lv_iload_n hx hb dX10_byteAt_7 rfl (lv_at hl 1 rfl) ?_
  refine lv_if_lt (tgt := 28) hx hb dX10_byteAt_8 (by decide) (fun c => absurd c (by decide +kernel)) (fun _ => ?_)
  refine lv_iload_n hx hb dX10_byteAt_11 rfl (lv_at hl 1 rfl) ?_
  refine lv_aload_n hx hb dX10_byteAt_12 rfl (lv_at hl 0 rfl) ?_
  refine va_get (D := (dC, dI)) (ci := 6) (v := .int 0) (C := RX10) (T := TX10) (N := 7) hx hb hw inX10 hown hK hP 0 rfl rfl 4 (by decide) (hw _ mP_261) (fun _ h9 => h9) rfl dX10_byteAt_13 ?_
  refine lv_icmp_ge (tgt := 28) hx hb dX10_byteAt_16 (by decide) (fun _ => ?_) (fun c => absurd (by decide +kernel) c)
  refine lv_iconst (v := (-1)) hx hb dX10_byteAt_28 (by decide) ?_
  refine W.widen (k := 0) (n := 0) (Nat.le_of_ble_eq_true rfl) (Nat.le_of_ble_eq_true rfl) ?_
  exact W.iret (v := (-1)) hx hb hr (fun t ht hW => ⟨⟨(-1), (), rfl, rfl, by rw [ht]; exact hP, va_K.moved hW.alike hK, hD⟩, hS.F ht⟩) hS.2.2 dX10_byteAt_29
