set_option maxHeartbeats 4000000 in
set_option maxRecDepth 100000 in
theorem tX10_init_n1 (l : Launch) (dC : Nat → ClassId) (dI : Nat → Nat → Nat) (h0 : Nat) (sz : Nat) (kK kV : Nat) : Met l yX10_init (.code yX10_init cX10_init 6 none :: wP) ({ frames := 4, cells := 4, slots := 7234, locals := 85 }) (Pe dC dI [.ref h0] sz [(h0, .inr (6, [.null, .null, .null, .null, .int 0, .int 0, .int 0]))] [] kK kV) (va_Qv (fun (_ : Unit) => True) (fun (_ : Unit) (t : State) => ∃ (q1 : Nat) (q3 : Nat) (q5 : Nat) (q7 : Nat) (b4 : ClassId) (b6 : ClassId), va_P (dC, dI) vC [(h0, .inr (6, [.ref q1, .ref q5, .ref q7, .null, .int 0, .int 0, .int (-1)])), (q1, .inr (5, [.int 5, .int 1201, .ref q3, .int 0])), (q3, .inl (b4, 6005, .inl (fun _ => 0))), (q5, .inl (b6, 1201, .inr (.inl (fun _ => 0))))] t.heap ∧ va_K (dC, dI) vC [(b4, .int), (b6, .long)] t ∧ va_D (va_A [(h0, .inr (6, [.null, .null, .null, .null, .int 0, .int 0, .int 0]))] sz) [(h0, .inr (6, [.ref q1, .ref q5, .ref q7, .null, .int 0, .int 0, .int (-1)])), (q1, .inr (5, [.int 5, .int 1201, .ref q3, .int 0])), (q3, .inl (b4, 6005, .inl (fun _ => 0))), (q5, .inl (b6, 1201, .inr (.inl (fun _ => 0))))]) (va_A [(h0, .inr (6, [.null, .null, .null, .null, .int 0, .int 0, .int 0]))] sz)) 4 7234 (va_A [(h0, .inr (6, [.null, .null, .null, .null, .int 0, .int 0, .int 0]))] sz) := by
  refine Met.ofW (cc := cX10_init) (maxL := 6) (ret := none) (by decide) rfl ?_
  intro p e s m args below meth c s₁ B hml hv
  obtain ⟨rfl, hsz, hP, hK, hD0, hX0⟩ := hv
  have hx := B.exec
  have hb := B.bytes
  have hr := B.returns
  have hts := atoms_spec (ws := .code yX10_init cX10_init 6 none :: wP) B.pre
  have hw : ∀ w ∈ wP, w.before _ s = true := fun w h => hts w (List.mem_cons_of_mem _ h)
  have hown : s.vm.findClass RX10 = some m.cls := findClass_of_methodNamed B.named
  have hlocks := B.notSynchronized
  have hin : meth.name = "<init>" := (name_of_methodNamed B.named B.method).1
  subst hsz
  have hD := hD0.self (sz := s.heap.size)
  generalize hAe : va_A [(h0, .inr (6, [.null, .null, .null, .null, .int 0, .int 0, .int 0]))] s.heap.size = A at hD hX0 ⊢
  have hX := hX0
  have hA : ∀ q : Nat, s.heap.size ≤ q → A q := fun q h => by rw [← hAe]; exact Or.inr h
  have hS : va_S A s.heap s.heap [] := va_S.rf
  have hP : va_P (dC, dI) vC [(h0, .inr (6, [.null, .null, .null, .null, .int 0, .int 0, .int 0]))] s.heap := hP
  have hl := lv_entry ([.ref h0]) (n := 6) (Nat.le_of_ble_eq_true rfl)
  rw [lg_entry_eq]
  generalize (lg_sl ([.ref h0]) ++ List.replicate (6 - (lg_sl ([.ref h0])).length) Slot.unset).toArray = ls at hl ⊢
  have hl : lv_has ls 6 [(0, .ref h0)] := hl
  refine lv_aload_n hx hb dX10_init_0 rfl (lv_at hl 0 rfl) ?_
  refine W.objInit hx hb hown (hw _ mP_168) (hw _ mP_28) (hw _ mP_29) rfl (by rw [hml]; exact hl.1) rfl dX10_init_1 (Nat.le_of_ble_eq_true rfl) (Nat.le_of_ble_eq_true rfl) ?_
  refine W.eq (g2 := F0 m 4 ls []) rfl ?_
  refine lv_aload_n hx hb dX10_init_4 rfl (lv_at hl 0 rfl) ?_
  refine va_new (ci := 5) (fs := [.int 0, .int 0, .null, .int 0]) (C := RX9) (T := TX9) (N := 4) hx hb hw inX9 tyX9 tyX9_ok hown (hw _ mP_169) (hw _ mP_170) (hw _ mP_171) hK hP hD hS hA rfl dfX9 (Nat.le_of_ble_eq_true rfl) (Nat.le_of_ble_eq_true rfl) dX10_init_5 (fun q1 H hP hD hS => ?_)
  have hP : va_P (dC, dI) vC [(h0, .inr (6, [.null, .null, .null, .null, .int 0, .int 0, .int 0])), (q1, .inr (5, [.int 0, .int 0, .null, .int 0]))] H := hP
  have hD : va_D A [(h0, .inr (6, [.null, .null, .null, .null, .int 0, .int 0, .int 0])), (q1, .inr (5, [.int 0, .int 0, .null, .int 0]))] := hD
  refine W.widen (k := 1) (n := 4) (Nat.le_of_ble_eq_true rfl) (Nat.le_of_ble_eq_true rfl) ?_
  refine lv_dup hx hb dX10_init_8 rfl ?_
  refine lv_iconst (v := 5) hx hb dX10_init_9 (by decide) ?_
  refine lv_sipush (v := 1201) hx hb dX10_init_10 (by decide) ?_
  have hPc := hP.sub (ws' := [(q1, .inr (5, [.int 0, .int 0, .null, .int 0]))]) [1] rfl
  have hDc := hD.sub (ws' := [(q1, .inr (5, [.int 0, .int 0, .null, .int 0]))]) [1] (by decide) rfl
  have hKc := hK.sub (tys' := []) [] rfl
  have hFc := va_free (wc := [(q1, .inr (5, [.int 0, .int 0, .null, .int 0]))]) hD hS hA [1] rfl
  refine va_callv (va_runI (As := [.int 5, .int 1201]) (rest := [.ref q1, .ref h0]) ⟨hx, hb, hml, hown, hw⟩ (tX9_init_n1 l dC dI q1 H.size) ⟨callB_of 2 hw (gd mP_180) rfl rfl rfl (hw _ mP_171) (hw _ mP_181) hdX9_init ⟨Nat.le_of_ble_eq_true rfl, Nat.le_of_ble_eq_true rfl⟩, rfl, (hw _ mP_182)⟩ ⟨fbz, prz hPc hKc hDc⟩ rfl rfl hl.1 rfl (lv_room (Nat.le_of_ble_eq_true rfl)) dX10_init_13 ⟨Nat.le_of_ble_eq_true rfl, Nat.le_of_ble_eq_true rfl⟩) hS (fun q _ h => hFc q h) hFc (fun u2 t H1 locs ht hvm hpo hB hz1 hk1 hS => ?_)
  obtain ⟨q3, b4, hP1, hK1, hD1⟩ := hB
  rw [ht] at hP1
  have hK1 := va_K.moved hvm.symm hK1
  obtain ⟨hP, hD⟩ := va_join (wr := [(h0, .inr (6, [.null, .null, .null, .null, .int 0, .int 0, .int 0]))]) (w1 := [(q1, .inr (5, [.int 5, .int 1201, .ref q3, .int 0])), (q3, .inl (b4, 6005, .inl (fun _ => 0)))]) hP hD [1] [0] rfl rfl (by decide) (by decide) hk1 hFc hP1 hD1
  have hK := (hK.sub (tys' := []) [] rfl).app hK1
  generalize H1 = H at hP hS ⊢
  have hP : va_P (dC, dI) vC [(h0, .inr (6, [.null, .null, .null, .null, .int 0, .int 0, .int 0])), (q1, .inr (5, [.int 5, .int 1201, .ref q3, .int 0])), (q3, .inl (b4, 6005, .inl (fun _ => 0)))] H := hP
  have hD : va_D A [(h0, .inr (6, [.null, .null, .null, .null, .int 0, .int 0, .int 0])), (q1, .inr (5, [.int 5, .int 1201, .ref q3, .int 0])), (q3, .inl (b4, 6005, .inl (fun _ => 0)))] := hD
  have hK : va_K (dC, dI) vC [(b4, .int)] s := hK
  refine W.widen (k := 2) (n := 6009) (Nat.le_of_ble_eq_true rfl) (Nat.le_of_ble_eq_true rfl) ?_
  refine va_putF (D := (dC, dI)) (ci := 6) (v := .ref q1) (ty := .object "PaletteHouse$Table") (C := RX10) (T := TX10) (N := 7) hx hb hw inX10 tyX10 tyX10_ok nmX10 hown hK hP hD hS 0 rfl rfl 0 (by decide) (hw _ mP_183) (fun _ h9 => h9) rfl hin rfl (tyX10_ok 0 (by decide)) rfl rfl (Nat.le_of_ble_eq_true rfl) dX10_init_16 (fun H locs hP hD hS => ?_)
  have hP : va_P (dC, dI) vC [(h0, .inr (6, [.ref q1, .null, .null, .null, .int 0, .int 0, .int 0])), (q1, .inr (5, [.int 5, .int 1201, .ref q3, .int 0])), (q3, .inl (b4, 6005, .inl (fun _ => 0)))] H := hP
  have hD : va_D A [(h0, .inr (6, [.ref q1, .null, .null, .null, .int 0, .int 0, .int 0])), (q1, .inr (5, [.int 5, .int 1201, .ref q3, .int 0])), (q3, .inl (b4, 6005, .inl (fun _ => 0)))] := hD
  refine lv_aload_n hx hb dX10_init_19 rfl (lv_at hl 0 rfl) ?_
  refine lv_sipush (v := 1201) hx hb dX10_init_20 (by decide) ?_
  refine va_newa (atype := .long) (ty := .long) (a0 := (1201, .inr (.inl (fun _ => 0)))) hx hb (hw _ mP_184) rfl hK hP hD hS hA (fun _ => rfl) (by decide +kernel) (by decide +kernel) (by decide +kernel) (Nat.le_of_ble_eq_true rfl) (Nat.le_of_ble_eq_true rfl) dX10_init_23 (fun q5 b6 H hK hP hD hS => ?_)
  have hP : va_P (dC, dI) vC [(h0, .inr (6, [.ref q1, .null, .null, .null, .int 0, .int 0, .int 0])), (q1, .inr (5, [.int 5, .int 1201, .ref q3, .int 0])), (q3, .inl (b4, 6005, .inl (fun _ => 0))), (q5, .inl (b6, 1201, .inr (.inl (fun _ => 0))))] H := hP
  have hD : va_D A [(h0, .inr (6, [.ref q1, .null, .null, .null, .int 0, .int 0, .int 0])), (q1, .inr (5, [.int 5, .int 1201, .ref q3, .int 0])), (q3, .inl (b4, 6005, .inl (fun _ => 0))), (q5, .inl (b6, 1201, .inr (.inl (fun _ => 0))))] := hD
  have hK : va_K (dC, dI) vC [(b4, .int), (b6, .long)] s := hK
  refine W.widen (k := 3) (n := 7210) (Nat.le_of_ble_eq_true rfl) (Nat.le_of_ble_eq_true rfl) ?_
  refine va_putF (D := (dC, dI)) (ci := 6) (v := .ref q5) (ty := .array .long) (C := RX10) (T := TX10) (N := 7) hx hb hw inX10 tyX10 tyX10_ok nmX10 hown hK hP hD hS 0 rfl rfl 1 (by decide) (hw _ mP_185) (fun _ h9 => h9) rfl hin rfl (tyX10_ok 1 (by decide)) rfl rfl (Nat.le_of_ble_eq_true rfl) dX10_init_25 (fun H locs hP hD hS => ?_)
  have hP : va_P (dC, dI) vC [(h0, .inr (6, [.ref q1, .ref q5, .null, .null, .int 0, .int 0, .int 0])), (q1, .inr (5, [.int 5, .int 1201, .ref q3, .int 0])), (q3, .inl (b4, 6005, .inl (fun _ => 0))), (q5, .inl (b6, 1201, .inr (.inl (fun _ => 0))))] H := hP
  have hD : va_D A [(h0, .inr (6, [.ref q1, .ref q5, .null, .null, .int 0, .int 0, .int 0])), (q1, .inr (5, [.int 5, .int 1201, .ref q3, .int 0])), (q3, .inl (b4, 6005, .inl (fun _ => 0))), (q5, .inl (b6, 1201, .inr (.inl (fun _ => 0))))] := hD
  refine lv_aload_n hx hb dX10_init_28 rfl (lv_at hl 0 rfl) ?_
  refine lv_bipush (v := 24) hx hb dX10_init_29 (by decide) ?_
  refine va_newa (atype := .long) (ty := .long) (a0 := (24, .inr (.inl (fun _ => 0)))) hx hb (hw _ mP_184) rfl hK hP hD hS hA (fun _ => rfl) (by decide +kernel) (by decide +kernel) (by decide +kernel) (Nat.le_of_ble_eq_true rfl) (Nat.le_of_ble_eq_true rfl) dX10_init_31 (fun q7 b8 H hK hP hD hS => ?_)
  have hP : va_P (dC, dI) vC [(h0, .inr (6, [.ref q1, .ref q5, .null, .null, .int 0, .int 0, .int 0])), (q1, .inr (5, [.int 5, .int 1201, .ref q3, .int 0])), (q3, .inl (b4, 6005, .inl (fun _ => 0))), (q5, .inl (b6, 1201, .inr (.inl (fun _ => 0)))), (q7, .inl (b8, 24, .inr (.inl (fun _ => 0))))] H := hP
  have hD : va_D A [(h0, .inr (6, [.ref q1, .ref q5, .null, .null, .int 0, .int 0, .int 0])), (q1, .inr (5, [.int 5, .int 1201, .ref q3, .int 0])), (q3, .inl (b4, 6005, .inl (fun _ => 0))), (q5, .inl (b6, 1201, .inr (.inl (fun _ => 0)))), (q7, .inl (b8, 24, .inr (.inl (fun _ => 0))))] := hD
  have hK : va_K (dC, dI) vC [(b4, .int), (b6, .long), (b8, .long)] s := hK
  refine W.widen (k := 4) (n := 7234) (Nat.le_of_ble_eq_true rfl) (Nat.le_of_ble_eq_true rfl) ?_
  refine va_putF (D := (dC, dI)) (ci := 6) (v := .ref q7) (ty := .array .long) (C := RX10) (T := TX10) (N := 7) hx hb hw inX10 tyX10 tyX10_ok nmX10 hown hK hP hD hS 0 rfl rfl 2 (by decide) (hw _ mP_186) (fun _ h9 => h9) rfl hin rfl (tyX10_ok 2 (by decide)) rfl rfl (Nat.le_of_ble_eq_true rfl) dX10_init_33 (fun H locs hP hD hS => ?_)
  have hP : va_P (dC, dI) vC [(h0, .inr (6, [.ref q1, .ref q5, .ref q7, .null, .int 0, .int 0, .int 0])), (q1, .inr (5, [.int 5, .int 1201, .ref q3, .int 0])), (q3, .inl (b4, 6005, .inl (fun _ => 0))), (q5, .inl (b6, 1201, .inr (.inl (fun _ => 0)))), (q7, .inl (b8, 24, .inr (.inl (fun _ => 0))))] H := hP
  have hD : va_D A [(h0, .inr (6, [.ref q1, .ref q5, .ref q7, .null, .int 0, .int 0, .int 0])), (q1, .inr (5, [.int 5, .int 1201, .ref q3, .int 0])), (q3, .inl (b4, 6005, .inl (fun _ => 0))), (q5, .inl (b6, 1201, .inr (.inl (fun _ => 0)))), (q7, .inl (b8, 24, .inr (.inl (fun _ => 0))))] := hD
  refine lv_aload_n hx hb dX10_init_36 rfl (lv_at hl 0 rfl) ?_
  refine lv_iconst (v := (-1)) hx hb dX10_init_37 (by decide) ?_
  refine va_put (D := (dC, dI)) (ci := 6) (v := .int (-1)) (ty := .int) (C := RX10) (T := TX10) (N := 7) hx hb hw inX10 tyX10 tyX10_ok nmX10 hown hK hP hD hS 0 rfl rfl 6 (by decide) (hw _ mP_187) (fun _ h9 => h9) rfl (tyX10_ok 6 (by decide)) rfl rfl (Nat.le_of_ble_eq_true rfl) dX10_init_38 (fun H locs hP hD hS => ?_)
  have hP : va_P (dC, dI) vC [(h0, .inr (6, [.ref q1, .ref q5, .ref q7, .null, .int 0, .int 0, .int (-1)])), (q1, .inr (5, [.int 5, .int 1201, .ref q3, .int 0])), (q3, .inl (b4, 6005, .inl (fun _ => 0))), (q5, .inl (b6, 1201, .inr (.inl (fun _ => 0)))), (q7, .inl (b8, 24, .inr (.inl (fun _ => 0))))] H := hP
  have hD : va_D A [(h0, .inr (6, [.ref q1, .ref q5, .ref q7, .null, .int 0, .int 0, .int (-1)])), (q1, .inr (5, [.int 5, .int 1201, .ref q3, .int 0])), (q3, .inl (b4, 6005, .inl (fun _ => 0))), (q5, .inl (b6, 1201, .inr (.inl (fun _ => 0)))), (q7, .inl (b8, 24, .inr (.inl (fun _ => 0))))] := hD
  refine lv_iconst (v := 0) hx hb dX10_init_41 (by decide) ?_
  refine lv_istore_n (lv' := [(1, .int 0), (0, .ref h0)]) hx hb dX10_init_42 rfl hl (by decide) rfl (fun ls hl => ?_)
  refine lv_lconst (v := 0) hx hb dX10_init_43 (by decide) ?_
  refine lv_lstore_n (lv' := [(2, .long 0), (1, .int 0), (0, .ref h0)]) hx hb dX10_init_44 rfl hl (by decide) rfl (fun ls hl => ?_)
  refine lv_iconst (v := 0) hx hb dX10_init_45 (by decide) ?_
  refine lv_istore (lv' := [(4, .int 0), (2, .long 0), (1, .int 0), (0, .ref h0)]) hx hb dX10_init_46 hl (by decide) rfl (fun ls hl => ?_)
  refine tx_loop (h0 := h0) (q1 := q1) (q3 := q3) (q5 := q5) (q7 := q7) (b4 := b4) (b6 := b6) (b8 := b8) hx hb hml hown hw hX hA hK (Nat.le_of_ble_eq_true rfl) (Nat.le_of_ble_eq_true rfl) (Nat.le_of_ble_eq_true rfl) (Nat.le_of_ble_eq_true rfl) ?_ 91 0 0 0 (fun _ => 0) _ _ ls (Nat.zero_le _) (Nat.le_refl _) (Nat.zero_le _) hP hD hS (lv_sub hl [0, 1, 2, 3] rfl)
  intro fw H locs ls hP hD hS
  have hP := hP.sub (ws' := [(h0, .inr (6, [.ref q1, .ref q5, .ref q7, .null, .int 0, .int 0, .int (-1)])), (q1, .inr (5, [.int 5, .int 1201, .ref q3, .int 0])), (q3, .inl (b4, 6005, .inl (fun _ => 0))), (q5, .inl (b6, 1201, .inr (.inl (fun _ => 0))))]) [0, 1, 2, 3] rfl
  have hD := hD.sub (ws' := [(h0, .inr (6, [.ref q1, .ref q5, .ref q7, .null, .int 0, .int 0, .int (-1)])), (q1, .inr (5, [.int 5, .int 1201, .ref q3, .int 0])), (q3, .inl (b4, 6005, .inl (fun _ => 0))), (q5, .inl (b6, 1201, .inr (.inl (fun _ => 0))))]) [0, 1, 2, 3] (by decide) rfl
  have hK := hK.sub (tys' := [(b4, .int), (b6, .long)]) [0, 1] rfl
  refine W.widen (k := 4) (n := 7234) (Nat.le_of_ble_eq_true rfl) (Nat.le_of_ble_eq_true rfl) ?_
  exact W.vret hx hb hr (fun t ht hW => ⟨⟨(), rfl, trivial, q1, q3, q5, q7, b4, b6, by rw [ht]; exact hP, va_K.moved hW.alike hK, hD⟩, hS.F ht⟩) hS.2.2 dX10_init_119
set_option maxHeartbeats 4000000 in
set_option maxRecDepth 100000 in
theorem tX6_init_n1 (l : Launch) (dC : Nat → ClassId) (dI : Nat → Nat → Nat) (h0 h1 h2 h3 h4 j0 : Nat) (sz : Nat) (k0 k1 : ClassId) (kK kV : Nat) : Met l yX6_init (.code yX6_init cX6_init 2 none :: wP) ({ frames := 1, cells := 0, slots := 0, locals := 20 }) (Pe dC dI [.ref h0, .ref h1] sz [(h0, .inr (3, [.null, .null, .null, .int 0, .int 0, .int 0])), (h1, .inr (6, [.ref h2, .ref h3, .ref j0, .null, .int 0, .int 0, .int (-1)])), (h2, .inr (5, [.int 5, .int 1201, .ref h4, .int 0])), (h3, .inl (k0, 1201, .inr (.inl (fun _ => 0)))), (h4, .inl (k1, 6005, .inl (fun _ => 0)))] [(k0, .long), (k1, .int)] kK kV) (va_Qv (fun (_ : Unit) => True) (fun (_ : Unit) (t : State) => va_P (dC, dI) vC [(h0, .inr (3, [.ref h1, .ref h2, .null, .int 0, .int 0, .int 0])), (h1, .inr (6, [.ref h2, .ref h3, .ref j0, .null, .int 0, .int 0, .int (-1)])), (h2, .inr (5, [.int 5, .int 1201, .ref h4, .int 0])), (h3, .inl (k0, 1201, .inr (.inl (fun _ => 0)))), (h4, .inl (k1, 6005, .inl (fun _ => 0)))] t.heap ∧ va_K (dC, dI) vC [(k0, .long), (k1, .int)] t ∧ va_D (va_A [(h0, .inr (3, [.null, .null, .null, .int 0, .int 0, .int 0])), (h1, .inr (6, [.ref h2, .ref h3, .ref j0, .null, .int 0, .int 0, .int (-1)])), (h2, .inr (5, [.int 5, .int 1201, .ref h4, .int 0])), (h3, .inl (k0, 1201, .inr (.inl (fun _ => 0)))), (h4, .inl (k1, 6005, .inl (fun _ => 0)))] sz) [(h0, .inr (3, [.ref h1, .ref h2, .null, .int 0, .int 0, .int 0])), (h1, .inr (6, [.ref h2, .ref h3, .ref j0, .null, .int 0, .int 0, .int (-1)])), (h2, .inr (5, [.int 5, .int 1201, .ref h4, .int 0])), (h3, .inl (k0, 1201, .inr (.inl (fun _ => 0)))), (h4, .inl (k1, 6005, .inl (fun _ => 0)))]) (va_A [(h0, .inr (3, [.null, .null, .null, .int 0, .int 0, .int 0])), (h1, .inr (6, [.ref h2, .ref h3, .ref j0, .null, .int 0, .int 0, .int (-1)])), (h2, .inr (5, [.int 5, .int 1201, .ref h4, .int 0])), (h3, .inl (k0, 1201, .inr (.inl (fun _ => 0)))), (h4, .inl (k1, 6005, .inl (fun _ => 0)))] sz)) 0 0 (va_A [(h0, .inr (3, [.null, .null, .null, .int 0, .int 0, .int 0])), (h1, .inr (6, [.ref h2, .ref h3, .ref j0, .null, .int 0, .int 0, .int (-1)])), (h2, .inr (5, [.int 5, .int 1201, .ref h4, .int 0])), (h3, .inl (k0, 1201, .inr (.inl (fun _ => 0)))), (h4, .inl (k1, 6005, .inl (fun _ => 0)))] sz) := by
  refine Met.ofW (cc := cX6_init) (maxL := 2) (ret := none) (by decide) rfl ?_
  intro p e s m args below meth c s₁ B hml hv
  obtain ⟨rfl, hsz, hP, hK, hD0, hX0⟩ := hv
  have hx := B.exec
  have hb := B.bytes
  have hr := B.returns
  have hts := atoms_spec (ws := .code yX6_init cX6_init 2 none :: wP) B.pre
  have hw : ∀ w ∈ wP, w.before _ s = true := fun w h => hts w (List.mem_cons_of_mem _ h)
  have hown : s.vm.findClass RX6 = some m.cls := findClass_of_methodNamed B.named
  have hlocks := B.notSynchronized
  have hin : meth.name = "<init>" := (name_of_methodNamed B.named B.method).1
  subst hsz
  have hD := hD0.self (sz := s.heap.size)
  generalize hAe : va_A [(h0, .inr (3, [.null, .null, .null, .int 0, .int 0, .int 0])), (h1, .inr (6, [.ref h2, .ref h3, .ref j0, .null, .int 0, .int 0, .int (-1)])), (h2, .inr (5, [.int 5, .int 1201, .ref h4, .int 0])), (h3, .inl (k0, 1201, .inr (.inl (fun _ => 0)))), (h4, .inl (k1, 6005, .inl (fun _ => 0)))] s.heap.size = A at hD hX0 ⊢
  have hX := hX0
  have hA : ∀ q : Nat, s.heap.size ≤ q → A q := fun q h => by rw [← hAe]; exact Or.inr h
  have hS : va_S A s.heap s.heap [] := va_S.rf
  have hP : va_P (dC, dI) vC [(h0, .inr (3, [.null, .null, .null, .int 0, .int 0, .int 0])), (h1, .inr (6, [.ref h2, .ref h3, .ref j0, .null, .int 0, .int 0, .int (-1)])), (h2, .inr (5, [.int 5, .int 1201, .ref h4, .int 0])), (h3, .inl (k0, 1201, .inr (.inl (fun _ => 0)))), (h4, .inl (k1, 6005, .inl (fun _ => 0)))] s.heap := hP
  have hl := lv_entry ([.ref h0, .ref h1]) (n := 2) (Nat.le_of_ble_eq_true rfl)
  rw [lg_entry_eq]
  generalize (lg_sl ([.ref h0, .ref h1]) ++ List.replicate (2 - (lg_sl ([.ref h0, .ref h1])).length) Slot.unset).toArray = ls at hl ⊢
  have hl : lv_has ls 2 [(0, .ref h0), (1, .ref h1)] := hl
  refine lv_aload_n hx hb dX6_init_0 rfl (lv_at hl 0 rfl) ?_
  refine W.objInit hx hb hown (hw _ mP_204) (hw _ mP_28) (hw _ mP_29) rfl (by rw [hml]; exact hl.1) rfl dX6_init_1 (Nat.le_of_ble_eq_true rfl) (Nat.le_of_ble_eq_true rfl) ?_
  refine W.eq (g2 := F0 m 4 ls []) rfl ?_
  refine lv_aload_n hx hb dX6_init_4 rfl (lv_at hl 0 rfl) ?_
  refine lv_aload_n hx hb dX6_init_5 rfl (lv_at hl 1 rfl) ?_
  refine va_putF (D := (dC, dI)) (ci := 3) (v := .ref h1) (ty := .object "PaletteHouse$Text") (C := RX6) (T := TX6) (N := 6) hx hb hw inX6 tyX6 tyX6_ok nmX6 hown hK hP hD hS 0 rfl rfl 0 (by decide) (hw _ mP_205) (fun _ h9 => h9) rfl hin rfl (tyX6_ok 0 (by decide)) rfl rfl (Nat.le_of_ble_eq_true rfl) dX6_init_6 (fun H locs hP hD hS => ?_)
  have hP : va_P (dC, dI) vC [(h0, .inr (3, [.ref h1, .null, .null, .int 0, .int 0, .int 0])), (h1, .inr (6, [.ref h2, .ref h3, .ref j0, .null, .int 0, .int 0, .int (-1)])), (h2, .inr (5, [.int 5, .int 1201, .ref h4, .int 0])), (h3, .inl (k0, 1201, .inr (.inl (fun _ => 0)))), (h4, .inl (k1, 6005, .inl (fun _ => 0)))] H := hP
  have hD : va_D A [(h0, .inr (3, [.ref h1, .null, .null, .int 0, .int 0, .int 0])), (h1, .inr (6, [.ref h2, .ref h3, .ref j0, .null, .int 0, .int 0, .int (-1)])), (h2, .inr (5, [.int 5, .int 1201, .ref h4, .int 0])), (h3, .inl (k0, 1201, .inr (.inl (fun _ => 0)))), (h4, .inl (k1, 6005, .inl (fun _ => 0)))] := hD
  refine lv_aload_n hx hb dX6_init_9 rfl (lv_at hl 0 rfl) ?_
  refine lv_aload_n hx hb dX6_init_10 rfl (lv_at hl 1 rfl) ?_
  refine va_getN (host := "PaletteHouse") (D := (dC, dI)) (ci := 6) (v := .ref h2) (C := RX10) (T := TX10) (N := 7) hx hb hw inX10 hown hK hP 1 rfl rfl 0 (by decide) (va_Nw.use rfl hX.nX615) (fun _ h9 => h9) rfl dX6_init_11 ?_
  refine va_putF (D := (dC, dI)) (ci := 3) (v := .ref h2) (ty := .object "PaletteHouse$Table") (C := RX6) (T := TX6) (N := 6) hx hb hw inX6 tyX6 tyX6_ok nmX6 hown hK hP hD hS 0 rfl rfl 1 (by decide) (hw _ mP_206) (fun _ h9 => h9) rfl hin rfl (tyX6_ok 1 (by decide)) rfl rfl (Nat.le_of_ble_eq_true rfl) dX6_init_14 (fun H locs hP hD hS => ?_)
  have hP : va_P (dC, dI) vC [(h0, .inr (3, [.ref h1, .ref h2, .null, .int 0, .int 0, .int 0])), (h1, .inr (6, [.ref h2, .ref h3, .ref j0, .null, .int 0, .int 0, .int (-1)])), (h2, .inr (5, [.int 5, .int 1201, .ref h4, .int 0])), (h3, .inl (k0, 1201, .inr (.inl (fun _ => 0)))), (h4, .inl (k1, 6005, .inl (fun _ => 0)))] H := hP
  have hD : va_D A [(h0, .inr (3, [.ref h1, .ref h2, .null, .int 0, .int 0, .int 0])), (h1, .inr (6, [.ref h2, .ref h3, .ref j0, .null, .int 0, .int 0, .int (-1)])), (h2, .inr (5, [.int 5, .int 1201, .ref h4, .int 0])), (h3, .inl (k0, 1201, .inr (.inl (fun _ => 0)))), (h4, .inl (k1, 6005, .inl (fun _ => 0)))] := hD
  refine W.widen (k := 0) (n := 0) (Nat.le_of_ble_eq_true rfl) (Nat.le_of_ble_eq_true rfl) ?_
  exact W.vret hx hb hr (fun t ht hW => ⟨⟨(), rfl, trivial, by rw [ht]; exact hP, va_K.moved hW.alike hK, hD⟩, hS.F ht⟩) hS.2.2 dX6_init_17
set_option maxHeartbeats 4000000 in
set_option maxRecDepth 100000 in
theorem tX2_init_n1 (l : Launch) (dC : Nat → ClassId) (dI : Nat → Nat → Nat) (h0 h1 h2 h3 h4 j0 : Nat) (sz : Nat) (k0 k1 : ClassId) (kK kV : Nat) : Met l yX2_init (.code yX2_init cX2_init 2 none :: wP) ({ frames := 1, cells := 0, slots := 0, locals := 20 }) (Pe dC dI [.ref h0, .ref h1] sz [(h0, .inr (1, [.null, .null, .null])), (h1, .inr (6, [.ref h2, .ref h3, .ref j0, .null, .int 0, .int 0, .int (-1)])), (h2, .inr (5, [.int 5, .int 1201, .ref h4, .int 0])), (h3, .inl (k0, 1201, .inr (.inl (fun _ => 0)))), (h4, .inl (k1, 6005, .inl (fun _ => 0)))] [(k0, .long), (k1, .int)] kK kV) (va_Qv (fun (_ : Unit) => True) (fun (_ : Unit) (t : State) => va_P (dC, dI) vC [(h0, .inr (1, [.ref h1, .ref h2, .null])), (h1, .inr (6, [.ref h2, .ref h3, .ref j0, .null, .int 0, .int 0, .int (-1)])), (h2, .inr (5, [.int 5, .int 1201, .ref h4, .int 0])), (h3, .inl (k0, 1201, .inr (.inl (fun _ => 0)))), (h4, .inl (k1, 6005, .inl (fun _ => 0)))] t.heap ∧ va_K (dC, dI) vC [(k0, .long), (k1, .int)] t ∧ va_D (va_A [(h0, .inr (1, [.null, .null, .null])), (h1, .inr (6, [.ref h2, .ref h3, .ref j0, .null, .int 0, .int 0, .int (-1)])), (h2, .inr (5, [.int 5, .int 1201, .ref h4, .int 0])), (h3, .inl (k0, 1201, .inr (.inl (fun _ => 0)))), (h4, .inl (k1, 6005, .inl (fun _ => 0)))] sz) [(h0, .inr (1, [.ref h1, .ref h2, .null])), (h1, .inr (6, [.ref h2, .ref h3, .ref j0, .null, .int 0, .int 0, .int (-1)])), (h2, .inr (5, [.int 5, .int 1201, .ref h4, .int 0])), (h3, .inl (k0, 1201, .inr (.inl (fun _ => 0)))), (h4, .inl (k1, 6005, .inl (fun _ => 0)))]) (va_A [(h0, .inr (1, [.null, .null, .null])), (h1, .inr (6, [.ref h2, .ref h3, .ref j0, .null, .int 0, .int 0, .int (-1)])), (h2, .inr (5, [.int 5, .int 1201, .ref h4, .int 0])), (h3, .inl (k0, 1201, .inr (.inl (fun _ => 0)))), (h4, .inl (k1, 6005, .inl (fun _ => 0)))] sz)) 0 0 (va_A [(h0, .inr (1, [.null, .null, .null])), (h1, .inr (6, [.ref h2, .ref h3, .ref j0, .null, .int 0, .int 0, .int (-1)])), (h2, .inr (5, [.int 5, .int 1201, .ref h4, .int 0])), (h3, .inl (k0, 1201, .inr (.inl (fun _ => 0)))), (h4, .inl (k1, 6005, .inl (fun _ => 0)))] sz) := by
  refine Met.ofW (cc := cX2_init) (maxL := 2) (ret := none) (by decide) rfl ?_
  intro p e s m args below meth c s₁ B hml hv
  obtain ⟨rfl, hsz, hP, hK, hD0, hX0⟩ := hv
  have hx := B.exec
  have hb := B.bytes
  have hr := B.returns
  have hts := atoms_spec (ws := .code yX2_init cX2_init 2 none :: wP) B.pre
  have hw : ∀ w ∈ wP, w.before _ s = true := fun w h => hts w (List.mem_cons_of_mem _ h)
  have hown : s.vm.findClass RX2 = some m.cls := findClass_of_methodNamed B.named
  have hlocks := B.notSynchronized
  have hin : meth.name = "<init>" := (name_of_methodNamed B.named B.method).1
  subst hsz
  have hD := hD0.self (sz := s.heap.size)
  generalize hAe : va_A [(h0, .inr (1, [.null, .null, .null])), (h1, .inr (6, [.ref h2, .ref h3, .ref j0, .null, .int 0, .int 0, .int (-1)])), (h2, .inr (5, [.int 5, .int 1201, .ref h4, .int 0])), (h3, .inl (k0, 1201, .inr (.inl (fun _ => 0)))), (h4, .inl (k1, 6005, .inl (fun _ => 0)))] s.heap.size = A at hD hX0 ⊢
  have hX := hX0
  have hA : ∀ q : Nat, s.heap.size ≤ q → A q := fun q h => by rw [← hAe]; exact Or.inr h
  have hS : va_S A s.heap s.heap [] := va_S.rf
  have hP : va_P (dC, dI) vC [(h0, .inr (1, [.null, .null, .null])), (h1, .inr (6, [.ref h2, .ref h3, .ref j0, .null, .int 0, .int 0, .int (-1)])), (h2, .inr (5, [.int 5, .int 1201, .ref h4, .int 0])), (h3, .inl (k0, 1201, .inr (.inl (fun _ => 0)))), (h4, .inl (k1, 6005, .inl (fun _ => 0)))] s.heap := hP
  have hl := lv_entry ([.ref h0, .ref h1]) (n := 2) (Nat.le_of_ble_eq_true rfl)
  rw [lg_entry_eq]
  generalize (lg_sl ([.ref h0, .ref h1]) ++ List.replicate (2 - (lg_sl ([.ref h0, .ref h1])).length) Slot.unset).toArray = ls at hl ⊢
  have hl : lv_has ls 2 [(0, .ref h0), (1, .ref h1)] := hl
  refine lv_aload_n hx hb dX2_init_0 rfl (lv_at hl 0 rfl) ?_
  refine W.objInit hx hb hown (hw _ mP_214) (hw _ mP_28) (hw _ mP_29) rfl (by rw [hml]; exact hl.1) rfl dX2_init_1 (Nat.le_of_ble_eq_true rfl) (Nat.le_of_ble_eq_true rfl) ?_
  refine W.eq (g2 := F0 m 4 ls []) rfl ?_
  refine lv_aload_n hx hb dX2_init_4 rfl (lv_at hl 0 rfl) ?_
  refine lv_aload_n hx hb dX2_init_5 rfl (lv_at hl 1 rfl) ?_
  refine va_putF (D := (dC, dI)) (ci := 1) (v := .ref h1) (ty := .object "PaletteHouse$Text") (C := RX2) (T := TX2) (N := 3) hx hb hw inX2 tyX2 tyX2_ok nmX2 hown hK hP hD hS 0 rfl rfl 0 (by decide) (hw _ mP_215) (fun _ h9 => h9) rfl hin rfl (tyX2_ok 0 (by decide)) rfl rfl (Nat.le_of_ble_eq_true rfl) dX2_init_6 (fun H locs hP hD hS => ?_)
  have hP : va_P (dC, dI) vC [(h0, .inr (1, [.ref h1, .null, .null])), (h1, .inr (6, [.ref h2, .ref h3, .ref j0, .null, .int 0, .int 0, .int (-1)])), (h2, .inr (5, [.int 5, .int 1201, .ref h4, .int 0])), (h3, .inl (k0, 1201, .inr (.inl (fun _ => 0)))), (h4, .inl (k1, 6005, .inl (fun _ => 0)))] H := hP
  have hD : va_D A [(h0, .inr (1, [.ref h1, .null, .null])), (h1, .inr (6, [.ref h2, .ref h3, .ref j0, .null, .int 0, .int 0, .int (-1)])), (h2, .inr (5, [.int 5, .int 1201, .ref h4, .int 0])), (h3, .inl (k0, 1201, .inr (.inl (fun _ => 0)))), (h4, .inl (k1, 6005, .inl (fun _ => 0)))] := hD
  refine lv_aload_n hx hb dX2_init_9 rfl (lv_at hl 0 rfl) ?_
  refine lv_aload_n hx hb dX2_init_10 rfl (lv_at hl 1 rfl) ?_
  refine va_getN (host := "PaletteHouse") (D := (dC, dI)) (ci := 6) (v := .ref h2) (C := RX10) (T := TX10) (N := 7) hx hb hw inX10 hown hK hP 1 rfl rfl 0 (by decide) (va_Nw.use rfl hX.nX215) (fun _ h9 => h9) rfl dX2_init_11 ?_
  refine va_putF (D := (dC, dI)) (ci := 1) (v := .ref h2) (ty := .object "PaletteHouse$Table") (C := RX2) (T := TX2) (N := 3) hx hb hw inX2 tyX2 tyX2_ok nmX2 hown hK hP hD hS 0 rfl rfl 1 (by decide) (hw _ mP_216) (fun _ h9 => h9) rfl hin rfl (tyX2_ok 1 (by decide)) rfl rfl (Nat.le_of_ble_eq_true rfl) dX2_init_14 (fun H locs hP hD hS => ?_)
  have hP : va_P (dC, dI) vC [(h0, .inr (1, [.ref h1, .ref h2, .null])), (h1, .inr (6, [.ref h2, .ref h3, .ref j0, .null, .int 0, .int 0, .int (-1)])), (h2, .inr (5, [.int 5, .int 1201, .ref h4, .int 0])), (h3, .inl (k0, 1201, .inr (.inl (fun _ => 0)))), (h4, .inl (k1, 6005, .inl (fun _ => 0)))] H := hP
  have hD : va_D A [(h0, .inr (1, [.ref h1, .ref h2, .null])), (h1, .inr (6, [.ref h2, .ref h3, .ref j0, .null, .int 0, .int 0, .int (-1)])), (h2, .inr (5, [.int 5, .int 1201, .ref h4, .int 0])), (h3, .inl (k0, 1201, .inr (.inl (fun _ => 0)))), (h4, .inl (k1, 6005, .inl (fun _ => 0)))] := hD
  refine W.widen (k := 0) (n := 0) (Nat.le_of_ble_eq_true rfl) (Nat.le_of_ble_eq_true rfl) ?_
  exact W.vret hx hb hr (fun t ht hW => ⟨⟨(), rfl, trivial, by rw [ht]; exact hP, va_K.moved hW.alike hK, hD⟩, hS.F ht⟩) hS.2.2 dX2_init_17
set_option maxHeartbeats 4000000 in
set_option maxRecDepth 100000 in
theorem tX9_init_n2 (l : Launch) (dC : Nat → ClassId) (dI : Nat → Nat → Nat) (h0 : Nat) (sz : Nat) : Met l yX9_init (.code yX9_init cX9_init 3 none :: wP) ({ frames := 1, cells := 1, slots := 360, locals := 21 }) (Pz dC dI [.ref h0, .int 12, .int 30] sz [(h0, .inr (5, [.int 0, .int 0, .null, .int 0]))] []) (va_Qv (fun (_ : Unit) => True) (fun (_ : Unit) (t : State) => ∃ (q1 : Nat) (b2 : ClassId), va_P (dC, dI) vC [(h0, .inr (5, [.int 12, .int 30, .ref q1, .int 0])), (q1, .inl (b2, 360, .inl (fun _ => 0)))] t.heap ∧ va_K (dC, dI) vC [(b2, .int)] t ∧ va_D (va_A [(h0, .inr (5, [.int 0, .int 0, .null, .int 0]))] sz) [(h0, .inr (5, [.int 12, .int 30, .ref q1, .int 0])), (q1, .inl (b2, 360, .inl (fun _ => 0)))]) (va_A [(h0, .inr (5, [.int 0, .int 0, .null, .int 0]))] sz)) 1 360 (va_A [(h0, .inr (5, [.int 0, .int 0, .null, .int 0]))] sz) := by
  refine Met.ofW (cc := cX9_init) (maxL := 3) (ret := none) (by decide) rfl ?_
  intro p e s m args below meth c s₁ B hml hv
  obtain ⟨rfl, hsz, hP, hK, hD0⟩ := hv
  have hx := B.exec
  have hb := B.bytes
  have hr := B.returns
  have hts := atoms_spec (ws := .code yX9_init cX9_init 3 none :: wP) B.pre
  have hw : ∀ w ∈ wP, w.before _ s = true := fun w h => hts w (List.mem_cons_of_mem _ h)
  have hown : s.vm.findClass RX9 = some m.cls := findClass_of_methodNamed B.named
  have hlocks := B.notSynchronized
  have hin : meth.name = "<init>" := (name_of_methodNamed B.named B.method).1
  subst hsz
  have hD := hD0.self (sz := s.heap.size)
  generalize hAe : va_A [(h0, .inr (5, [.int 0, .int 0, .null, .int 0]))] s.heap.size = A at hD ⊢
  have hA : ∀ q : Nat, s.heap.size ≤ q → A q := fun q h => by rw [← hAe]; exact Or.inr h
  have hS : va_S A s.heap s.heap [] := va_S.rf
  have hP : va_P (dC, dI) vC [(h0, .inr (5, [.int 0, .int 0, .null, .int 0]))] s.heap := hP
  have hl := lv_entry ([.ref h0, .int 12, .int 30]) (n := 3) (Nat.le_of_ble_eq_true rfl)
  rw [lg_entry_eq]
  generalize (lg_sl ([.ref h0, .int 12, .int 30]) ++ List.replicate (3 - (lg_sl ([.ref h0, .int 12, .int 30])).length) Slot.unset).toArray = ls at hl ⊢
  have hl : lv_has ls 3 [(0, .ref h0), (1, .int 12), (2, .int 30)] := hl
  refine lv_aload_n hx hb dX9_init_0 rfl (lv_at hl 0 rfl) ?_
  refine W.objInit hx hb hown (hw _ mP_172) (hw _ mP_28) (hw _ mP_29) rfl (by rw [hml]; exact hl.1) rfl dX9_init_1 (Nat.le_of_ble_eq_true rfl) (Nat.le_of_ble_eq_true rfl) ?_
  refine W.eq (g2 := F0 m 4 ls []) rfl ?_
  refine lv_aload_n hx hb dX9_init_4 rfl (lv_at hl 0 rfl) ?_
  refine lv_iconst (v := 1) hx hb dX9_init_5 (by decide) ?_
  refine lv_iload_n hx hb dX9_init_6 rfl (lv_at hl 1 rfl) ?_
  refine va_mmax hx hb (hml.trans hl.1.symm) hown (hw _ mP_173) (hw _ mP_174) (hw _ mP_175) (hw _ mP_176) (Nat.le_of_ble_eq_true rfl) (Nat.le_of_ble_eq_true rfl) (Nat.le_of_ble_eq_true rfl) (Nat.le_of_ble_eq_true rfl) dX9_init_7 ?_
  refine lv_nmi (y := 12) (by decide +kernel) ?_
  refine va_putF (D := (dC, dI)) (ci := 5) (v := .int 12) (ty := .int) (C := RX9) (T := TX9) (N := 4) hx hb hw inX9 tyX9 tyX9_ok nmX9 hown hK hP hD hS 0 rfl rfl 0 (by decide) (hw _ mP_177) (fun _ h9 => h9) rfl hin rfl (tyX9_ok 0 (by decide)) rfl rfl (Nat.le_of_ble_eq_true rfl) dX9_init_10 (fun H locs hP hD hS => ?_)
  have hP : va_P (dC, dI) vC [(h0, .inr (5, [.int 12, .int 0, .null, .int 0]))] H := hP
  have hD : va_D A [(h0, .inr (5, [.int 12, .int 0, .null, .int 0]))] := hD
  refine lv_aload_n hx hb dX9_init_13 rfl (lv_at hl 0 rfl) ?_
  refine lv_iconst (v := 0) hx hb dX9_init_14 (by decide) ?_
  refine lv_iload_n hx hb dX9_init_15 rfl (lv_at hl 2 rfl) ?_
  refine va_mmax hx hb (hml.trans hl.1.symm) hown (hw _ mP_173) (hw _ mP_174) (hw _ mP_175) (hw _ mP_176) (Nat.le_of_ble_eq_true rfl) (Nat.le_of_ble_eq_true rfl) (Nat.le_of_ble_eq_true rfl) (Nat.le_of_ble_eq_true rfl) dX9_init_16 ?_
  refine lv_nmi (y := 30) (by decide +kernel) ?_
  refine va_putF (D := (dC, dI)) (ci := 5) (v := .int 30) (ty := .int) (C := RX9) (T := TX9) (N := 4) hx hb hw inX9 tyX9 tyX9_ok nmX9 hown hK hP hD hS 0 rfl rfl 1 (by decide) (hw _ mP_178) (fun _ h9 => h9) rfl hin rfl (tyX9_ok 1 (by decide)) rfl rfl (Nat.le_of_ble_eq_true rfl) dX9_init_19 (fun H locs hP hD hS => ?_)
  have hP : va_P (dC, dI) vC [(h0, .inr (5, [.int 12, .int 30, .null, .int 0]))] H := hP
  have hD : va_D A [(h0, .inr (5, [.int 12, .int 30, .null, .int 0]))] := hD
  refine lv_aload_n hx hb dX9_init_22 rfl (lv_at hl 0 rfl) ?_
  refine lv_aload_n hx hb dX9_init_23 rfl (lv_at hl 0 rfl) ?_
  refine va_get (D := (dC, dI)) (ci := 5) (v := .int 12) (C := RX9) (T := TX9) (N := 4) hx hb hw inX9 hown hK hP 0 rfl rfl 0 (by decide) (hw _ mP_177) (fun _ h9 => h9) rfl dX9_init_24 ?_
  refine lv_aload_n hx hb dX9_init_27 rfl (lv_at hl 0 rfl) ?_
  refine va_get (D := (dC, dI)) (ci := 5) (v := .int 30) (C := RX9) (T := TX9) (N := 4) hx hb hw inX9 hown hK hP 0 rfl rfl 1 (by decide) (hw _ mP_178) (fun _ h9 => h9) rfl dX9_init_28 ?_
  refine lv_imul hx hb dX9_init_31 ?_
  refine lv_nmi (y := 360) (by decide +kernel) ?_
  refine va_newa (atype := .int) (ty := .int) (a0 := (360, .inl (fun _ => 0))) hx hb (hw _ mP_32) rfl hK hP hD hS hA (fun _ => rfl) (by decide +kernel) (by decide +kernel) (by decide +kernel) (Nat.le_of_ble_eq_true rfl) (Nat.le_of_ble_eq_true rfl) dX9_init_32 (fun q1 b2 H hK hP hD hS => ?_)
  have hP : va_P (dC, dI) vC [(h0, .inr (5, [.int 12, .int 30, .null, .int 0])), (q1, .inl (b2, 360, .inl (fun _ => 0)))] H := hP
  have hD : va_D A [(h0, .inr (5, [.int 12, .int 30, .null, .int 0])), (q1, .inl (b2, 360, .inl (fun _ => 0)))] := hD
  have hK : va_K (dC, dI) vC [(b2, .int)] s := hK
  refine W.widen (k := 1) (n := 360) (Nat.le_of_ble_eq_true rfl) (Nat.le_of_ble_eq_true rfl) ?_
  refine va_putF (D := (dC, dI)) (ci := 5) (v := .ref q1) (ty := .array .int) (C := RX9) (T := TX9) (N := 4) hx hb hw inX9 tyX9 tyX9_ok nmX9 hown hK hP hD hS 0 rfl rfl 2 (by decide) (hw _ mP_179) (fun _ h9 => h9) rfl hin rfl (tyX9_ok 2 (by decide)) rfl rfl (Nat.le_of_ble_eq_true rfl) dX9_init_34 (fun H locs hP hD hS => ?_)
  have hP : va_P (dC, dI) vC [(h0, .inr (5, [.int 12, .int 30, .ref q1, .int 0])), (q1, .inl (b2, 360, .inl (fun _ => 0)))] H := hP
  have hD : va_D A [(h0, .inr (5, [.int 12, .int 30, .ref q1, .int 0])), (q1, .inl (b2, 360, .inl (fun _ => 0)))] := hD
  refine W.widen (k := 1) (n := 360) (Nat.le_of_ble_eq_true rfl) (Nat.le_of_ble_eq_true rfl) ?_
  exact W.vret hx hb hr (fun t ht hW => ⟨⟨(), rfl, trivial, q1, b2, by rw [ht]; exact hP, va_K.moved hW.alike hK, hD⟩, hS.F ht⟩) hS.2.2 dX9_init_37
set_option maxHeartbeats 4000000 in
set_option maxRecDepth 100000 in
theorem tX9_init_n3 (l : Launch) (dC : Nat → ClassId) (dI : Nat → Nat → Nat) (h0 : Nat) (sz : Nat) : Met l yX9_init (.code yX9_init cX9_init 3 none :: wP) ({ frames := 1, cells := 1, slots := 6000, locals := 21 }) (Pz dC dI [.ref h0, .int 6, .int 1000] sz [(h0, .inr (5, [.int 0, .int 0, .null, .int 0]))] []) (va_Qv (fun (_ : Unit) => True) (fun (_ : Unit) (t : State) => ∃ (q1 : Nat) (b2 : ClassId), va_P (dC, dI) vC [(h0, .inr (5, [.int 6, .int 1000, .ref q1, .int 0])), (q1, .inl (b2, 6000, .inl (fun _ => 0)))] t.heap ∧ va_K (dC, dI) vC [(b2, .int)] t ∧ va_D (va_A [(h0, .inr (5, [.int 0, .int 0, .null, .int 0]))] sz) [(h0, .inr (5, [.int 6, .int 1000, .ref q1, .int 0])), (q1, .inl (b2, 6000, .inl (fun _ => 0)))]) (va_A [(h0, .inr (5, [.int 0, .int 0, .null, .int 0]))] sz)) 1 6000 (va_A [(h0, .inr (5, [.int 0, .int 0, .null, .int 0]))] sz) := by
  refine Met.ofW (cc := cX9_init) (maxL := 3) (ret := none) (by decide) rfl ?_
  intro p e s m args below meth c s₁ B hml hv
  obtain ⟨rfl, hsz, hP, hK, hD0⟩ := hv
  have hx := B.exec
  have hb := B.bytes
  have hr := B.returns
  have hts := atoms_spec (ws := .code yX9_init cX9_init 3 none :: wP) B.pre
  have hw : ∀ w ∈ wP, w.before _ s = true := fun w h => hts w (List.mem_cons_of_mem _ h)
  have hown : s.vm.findClass RX9 = some m.cls := findClass_of_methodNamed B.named
  have hlocks := B.notSynchronized
  have hin : meth.name = "<init>" := (name_of_methodNamed B.named B.method).1
  subst hsz
  have hD := hD0.self (sz := s.heap.size)
  generalize hAe : va_A [(h0, .inr (5, [.int 0, .int 0, .null, .int 0]))] s.heap.size = A at hD ⊢
  have hA : ∀ q : Nat, s.heap.size ≤ q → A q := fun q h => by rw [← hAe]; exact Or.inr h
  have hS : va_S A s.heap s.heap [] := va_S.rf
  have hP : va_P (dC, dI) vC [(h0, .inr (5, [.int 0, .int 0, .null, .int 0]))] s.heap := hP
  have hl := lv_entry ([.ref h0, .int 6, .int 1000]) (n := 3) (Nat.le_of_ble_eq_true rfl)
  rw [lg_entry_eq]
  generalize (lg_sl ([.ref h0, .int 6, .int 1000]) ++ List.replicate (3 - (lg_sl ([.ref h0, .int 6, .int 1000])).length) Slot.unset).toArray = ls at hl ⊢
  have hl : lv_has ls 3 [(0, .ref h0), (1, .int 6), (2, .int 1000)] := hl
  refine lv_aload_n hx hb dX9_init_0 rfl (lv_at hl 0 rfl) ?_
  refine W.objInit hx hb hown (hw _ mP_172) (hw _ mP_28) (hw _ mP_29) rfl (by rw [hml]; exact hl.1) rfl dX9_init_1 (Nat.le_of_ble_eq_true rfl) (Nat.le_of_ble_eq_true rfl) ?_
  refine W.eq (g2 := F0 m 4 ls []) rfl ?_
  refine lv_aload_n hx hb dX9_init_4 rfl (lv_at hl 0 rfl) ?_
  refine lv_iconst (v := 1) hx hb dX9_init_5 (by decide) ?_
  refine lv_iload_n hx hb dX9_init_6 rfl (lv_at hl 1 rfl) ?_
  refine va_mmax hx hb (hml.trans hl.1.symm) hown (hw _ mP_173) (hw _ mP_174) (hw _ mP_175) (hw _ mP_176) (Nat.le_of_ble_eq_true rfl) (Nat.le_of_ble_eq_true rfl) (Nat.le_of_ble_eq_true rfl) (Nat.le_of_ble_eq_true rfl) dX9_init_7 ?_
  refine lv_nmi (y := 6) (by decide +kernel) ?_
  refine va_putF (D := (dC, dI)) (ci := 5) (v := .int 6) (ty := .int) (C := RX9) (T := TX9) (N := 4) hx hb hw inX9 tyX9 tyX9_ok nmX9 hown hK hP hD hS 0 rfl rfl 0 (by decide) (hw _ mP_177) (fun _ h9 => h9) rfl hin rfl (tyX9_ok 0 (by decide)) rfl rfl (Nat.le_of_ble_eq_true rfl) dX9_init_10 (fun H locs hP hD hS => ?_)
  have hP : va_P (dC, dI) vC [(h0, .inr (5, [.int 6, .int 0, .null, .int 0]))] H := hP
  have hD : va_D A [(h0, .inr (5, [.int 6, .int 0, .null, .int 0]))] := hD
  refine lv_aload_n hx hb dX9_init_13 rfl (lv_at hl 0 rfl) ?_
  refine lv_iconst (v := 0) hx hb dX9_init_14 (by decide) ?_
  refine lv_iload_n hx hb dX9_init_15 rfl (lv_at hl 2 rfl) ?_
  refine va_mmax hx hb (hml.trans hl.1.symm) hown (hw _ mP_173) (hw _ mP_174) (hw _ mP_175) (hw _ mP_176) (Nat.le_of_ble_eq_true rfl) (Nat.le_of_ble_eq_true rfl) (Nat.le_of_ble_eq_true rfl) (Nat.le_of_ble_eq_true rfl) dX9_init_16 ?_
  refine lv_nmi (y := 1000) (by decide +kernel) ?_
  refine va_putF (D := (dC, dI)) (ci := 5) (v := .int 1000) (ty := .int) (C := RX9) (T := TX9) (N := 4) hx hb hw inX9 tyX9 tyX9_ok nmX9 hown hK hP hD hS 0 rfl rfl 1 (by decide) (hw _ mP_178) (fun _ h9 => h9) rfl hin rfl (tyX9_ok 1 (by decide)) rfl rfl (Nat.le_of_ble_eq_true rfl) dX9_init_19 (fun H locs hP hD hS => ?_)
  have hP : va_P (dC, dI) vC [(h0, .inr (5, [.int 6, .int 1000, .null, .int 0]))] H := hP
  have hD : va_D A [(h0, .inr (5, [.int 6, .int 1000, .null, .int 0]))] := hD
  refine lv_aload_n hx hb dX9_init_22 rfl (lv_at hl 0 rfl) ?_
  refine lv_aload_n hx hb dX9_init_23 rfl (lv_at hl 0 rfl) ?_
  refine va_get (D := (dC, dI)) (ci := 5) (v := .int 6) (C := RX9) (T := TX9) (N := 4) hx hb hw inX9 hown hK hP 0 rfl rfl 0 (by decide) (hw _ mP_177) (fun _ h9 => h9) rfl dX9_init_24 ?_
  refine lv_aload_n hx hb dX9_init_27 rfl (lv_at hl 0 rfl) ?_
  refine va_get (D := (dC, dI)) (ci := 5) (v := .int 1000) (C := RX9) (T := TX9) (N := 4) hx hb hw inX9 hown hK hP 0 rfl rfl 1 (by decide) (hw _ mP_178) (fun _ h9 => h9) rfl dX9_init_28 ?_
  refine lv_imul hx hb dX9_init_31 ?_
  refine lv_nmi (y := 6000) (by decide +kernel) ?_
  refine va_newa (atype := .int) (ty := .int) (a0 := (6000, .inl (fun _ => 0))) hx hb (hw _ mP_32) rfl hK hP hD hS hA (fun _ => rfl) (by decide +kernel) (by decide +kernel) (by decide +kernel) (Nat.le_of_ble_eq_true rfl) (Nat.le_of_ble_eq_true rfl) dX9_init_32 (fun q1 b2 H hK hP hD hS => ?_)
  have hP : va_P (dC, dI) vC [(h0, .inr (5, [.int 6, .int 1000, .null, .int 0])), (q1, .inl (b2, 6000, .inl (fun _ => 0)))] H := hP
  have hD : va_D A [(h0, .inr (5, [.int 6, .int 1000, .null, .int 0])), (q1, .inl (b2, 6000, .inl (fun _ => 0)))] := hD
  have hK : va_K (dC, dI) vC [(b2, .int)] s := hK
  refine W.widen (k := 1) (n := 6000) (Nat.le_of_ble_eq_true rfl) (Nat.le_of_ble_eq_true rfl) ?_
  refine va_putF (D := (dC, dI)) (ci := 5) (v := .ref q1) (ty := .array .int) (C := RX9) (T := TX9) (N := 4) hx hb hw inX9 tyX9 tyX9_ok nmX9 hown hK hP hD hS 0 rfl rfl 2 (by decide) (hw _ mP_179) (fun _ h9 => h9) rfl hin rfl (tyX9_ok 2 (by decide)) rfl rfl (Nat.le_of_ble_eq_true rfl) dX9_init_34 (fun H locs hP hD hS => ?_)
  have hP : va_P (dC, dI) vC [(h0, .inr (5, [.int 6, .int 1000, .ref q1, .int 0])), (q1, .inl (b2, 6000, .inl (fun _ => 0)))] H := hP
  have hD : va_D A [(h0, .inr (5, [.int 6, .int 1000, .ref q1, .int 0])), (q1, .inl (b2, 6000, .inl (fun _ => 0)))] := hD
  refine W.widen (k := 1) (n := 6000) (Nat.le_of_ble_eq_true rfl) (Nat.le_of_ble_eq_true rfl) ?_
  exact W.vret hx hb hr (fun t ht hW => ⟨⟨(), rfl, trivial, q1, b2, by rw [ht]; exact hP, va_K.moved hW.alike hK, hD⟩, hS.F ht⟩) hS.2.2 dX9_init_37
set_option maxHeartbeats 4000000 in
set_option maxRecDepth 100000 in
theorem tX9_init_n4 (l : Launch) (dC : Nat → ClassId) (dI : Nat → Nat → Nat) (h0 : Nat) (sz : Nat) : Met l yX9_init (.code yX9_init cX9_init 3 none :: wP) ({ frames := 1, cells := 1, slots := 600, locals := 21 }) (Pz dC dI [.ref h0, .int 4, .int 150] sz [(h0, .inr (5, [.int 0, .int 0, .null, .int 0]))] []) (va_Qv (fun (_ : Unit) => True) (fun (_ : Unit) (t : State) => ∃ (q1 : Nat) (b2 : ClassId), va_P (dC, dI) vC [(h0, .inr (5, [.int 4, .int 150, .ref q1, .int 0])), (q1, .inl (b2, 600, .inl (fun _ => 0)))] t.heap ∧ va_K (dC, dI) vC [(b2, .int)] t ∧ va_D (va_A [(h0, .inr (5, [.int 0, .int 0, .null, .int 0]))] sz) [(h0, .inr (5, [.int 4, .int 150, .ref q1, .int 0])), (q1, .inl (b2, 600, .inl (fun _ => 0)))]) (va_A [(h0, .inr (5, [.int 0, .int 0, .null, .int 0]))] sz)) 1 600 (va_A [(h0, .inr (5, [.int 0, .int 0, .null, .int 0]))] sz) := by
  refine Met.ofW (cc := cX9_init) (maxL := 3) (ret := none) (by decide) rfl ?_
  intro p e s m args below meth c s₁ B hml hv
  obtain ⟨rfl, hsz, hP, hK, hD0⟩ := hv
  have hx := B.exec
  have hb := B.bytes
  have hr := B.returns
  have hts := atoms_spec (ws := .code yX9_init cX9_init 3 none :: wP) B.pre
  have hw : ∀ w ∈ wP, w.before _ s = true := fun w h => hts w (List.mem_cons_of_mem _ h)
  have hown : s.vm.findClass RX9 = some m.cls := findClass_of_methodNamed B.named
  have hlocks := B.notSynchronized
  have hin : meth.name = "<init>" := (name_of_methodNamed B.named B.method).1
  subst hsz
  have hD := hD0.self (sz := s.heap.size)
  generalize hAe : va_A [(h0, .inr (5, [.int 0, .int 0, .null, .int 0]))] s.heap.size = A at hD ⊢
  have hA : ∀ q : Nat, s.heap.size ≤ q → A q := fun q h => by rw [← hAe]; exact Or.inr h
  have hS : va_S A s.heap s.heap [] := va_S.rf
  have hP : va_P (dC, dI) vC [(h0, .inr (5, [.int 0, .int 0, .null, .int 0]))] s.heap := hP
  have hl := lv_entry ([.ref h0, .int 4, .int 150]) (n := 3) (Nat.le_of_ble_eq_true rfl)
  rw [lg_entry_eq]
  generalize (lg_sl ([.ref h0, .int 4, .int 150]) ++ List.replicate (3 - (lg_sl ([.ref h0, .int 4, .int 150])).length) Slot.unset).toArray = ls at hl ⊢
  have hl : lv_has ls 3 [(0, .ref h0), (1, .int 4), (2, .int 150)] := hl
  refine lv_aload_n hx hb dX9_init_0 rfl (lv_at hl 0 rfl) ?_
  refine W.objInit hx hb hown (hw _ mP_172) (hw _ mP_28) (hw _ mP_29) rfl (by rw [hml]; exact hl.1) rfl dX9_init_1 (Nat.le_of_ble_eq_true rfl) (Nat.le_of_ble_eq_true rfl) ?_
  refine W.eq (g2 := F0 m 4 ls []) rfl ?_
  refine lv_aload_n hx hb dX9_init_4 rfl (lv_at hl 0 rfl) ?_
  refine lv_iconst (v := 1) hx hb dX9_init_5 (by decide) ?_
  refine lv_iload_n hx hb dX9_init_6 rfl (lv_at hl 1 rfl) ?_
  refine va_mmax hx hb (hml.trans hl.1.symm) hown (hw _ mP_173) (hw _ mP_174) (hw _ mP_175) (hw _ mP_176) (Nat.le_of_ble_eq_true rfl) (Nat.le_of_ble_eq_true rfl) (Nat.le_of_ble_eq_true rfl) (Nat.le_of_ble_eq_true rfl) dX9_init_7 ?_
  refine lv_nmi (y := 4) (by decide +kernel) ?_
  refine va_putF (D := (dC, dI)) (ci := 5) (v := .int 4) (ty := .int) (C := RX9) (T := TX9) (N := 4) hx hb hw inX9 tyX9 tyX9_ok nmX9 hown hK hP hD hS 0 rfl rfl 0 (by decide) (hw _ mP_177) (fun _ h9 => h9) rfl hin rfl (tyX9_ok 0 (by decide)) rfl rfl (Nat.le_of_ble_eq_true rfl) dX9_init_10 (fun H locs hP hD hS => ?_)
  have hP : va_P (dC, dI) vC [(h0, .inr (5, [.int 4, .int 0, .null, .int 0]))] H := hP
  have hD : va_D A [(h0, .inr (5, [.int 4, .int 0, .null, .int 0]))] := hD
  refine lv_aload_n hx hb dX9_init_13 rfl (lv_at hl 0 rfl) ?_
  refine lv_iconst (v := 0) hx hb dX9_init_14 (by decide) ?_
  refine lv_iload_n hx hb dX9_init_15 rfl (lv_at hl 2 rfl) ?_
  refine va_mmax hx hb (hml.trans hl.1.symm) hown (hw _ mP_173) (hw _ mP_174) (hw _ mP_175) (hw _ mP_176) (Nat.le_of_ble_eq_true rfl) (Nat.le_of_ble_eq_true rfl) (Nat.le_of_ble_eq_true rfl) (Nat.le_of_ble_eq_true rfl) dX9_init_16 ?_
  refine lv_nmi (y := 150) (by decide +kernel) ?_
  refine va_putF (D := (dC, dI)) (ci := 5) (v := .int 150) (ty := .int) (C := RX9) (T := TX9) (N := 4) hx hb hw inX9 tyX9 tyX9_ok nmX9 hown hK hP hD hS 0 rfl rfl 1 (by decide) (hw _ mP_178) (fun _ h9 => h9) rfl hin rfl (tyX9_ok 1 (by decide)) rfl rfl (Nat.le_of_ble_eq_true rfl) dX9_init_19 (fun H locs hP hD hS => ?_)
  have hP : va_P (dC, dI) vC [(h0, .inr (5, [.int 4, .int 150, .null, .int 0]))] H := hP
  have hD : va_D A [(h0, .inr (5, [.int 4, .int 150, .null, .int 0]))] := hD
  refine lv_aload_n hx hb dX9_init_22 rfl (lv_at hl 0 rfl) ?_
  refine lv_aload_n hx hb dX9_init_23 rfl (lv_at hl 0 rfl) ?_
  refine va_get (D := (dC, dI)) (ci := 5) (v := .int 4) (C := RX9) (T := TX9) (N := 4) hx hb hw inX9 hown hK hP 0 rfl rfl 0 (by decide) (hw _ mP_177) (fun _ h9 => h9) rfl dX9_init_24 ?_
  refine lv_aload_n hx hb dX9_init_27 rfl (lv_at hl 0 rfl) ?_
  refine va_get (D := (dC, dI)) (ci := 5) (v := .int 150) (C := RX9) (T := TX9) (N := 4) hx hb hw inX9 hown hK hP 0 rfl rfl 1 (by decide) (hw _ mP_178) (fun _ h9 => h9) rfl dX9_init_28 ?_
  refine lv_imul hx hb dX9_init_31 ?_
  refine lv_nmi (y := 600) (by decide +kernel) ?_
  refine va_newa (atype := .int) (ty := .int) (a0 := (600, .inl (fun _ => 0))) hx hb (hw _ mP_32) rfl hK hP hD hS hA (fun _ => rfl) (by decide +kernel) (by decide +kernel) (by decide +kernel) (Nat.le_of_ble_eq_true rfl) (Nat.le_of_ble_eq_true rfl) dX9_init_32 (fun q1 b2 H hK hP hD hS => ?_)
  have hP : va_P (dC, dI) vC [(h0, .inr (5, [.int 4, .int 150, .null, .int 0])), (q1, .inl (b2, 600, .inl (fun _ => 0)))] H := hP
  have hD : va_D A [(h0, .inr (5, [.int 4, .int 150, .null, .int 0])), (q1, .inl (b2, 600, .inl (fun _ => 0)))] := hD
  have hK : va_K (dC, dI) vC [(b2, .int)] s := hK
  refine W.widen (k := 1) (n := 600) (Nat.le_of_ble_eq_true rfl) (Nat.le_of_ble_eq_true rfl) ?_
  refine va_putF (D := (dC, dI)) (ci := 5) (v := .ref q1) (ty := .array .int) (C := RX9) (T := TX9) (N := 4) hx hb hw inX9 tyX9 tyX9_ok nmX9 hown hK hP hD hS 0 rfl rfl 2 (by decide) (hw _ mP_179) (fun _ h9 => h9) rfl hin rfl (tyX9_ok 2 (by decide)) rfl rfl (Nat.le_of_ble_eq_true rfl) dX9_init_34 (fun H locs hP hD hS => ?_)
  have hP : va_P (dC, dI) vC [(h0, .inr (5, [.int 4, .int 150, .ref q1, .int 0])), (q1, .inl (b2, 600, .inl (fun _ => 0)))] H := hP
  have hD : va_D A [(h0, .inr (5, [.int 4, .int 150, .ref q1, .int 0])), (q1, .inl (b2, 600, .inl (fun _ => 0)))] := hD
  refine W.widen (k := 1) (n := 600) (Nat.le_of_ble_eq_true rfl) (Nat.le_of_ble_eq_true rfl) ?_
  exact W.vret hx hb hr (fun t ht hW => ⟨⟨(), rfl, trivial, q1, b2, by rw [ht]; exact hP, va_K.moved hW.alike hK, hD⟩, hS.F ht⟩) hS.2.2 dX9_init_37
set_option maxHeartbeats 4000000 in
set_option maxRecDepth 100000 in
theorem tX9_init_n5 (l : Launch) (dC : Nat → ClassId) (dI : Nat → Nat → Nat) (h0 : Nat) (sz : Nat) : Met l yX9_init (.code yX9_init cX9_init 3 none :: wP) ({ frames := 1, cells := 1, slots := 1600, locals := 21 }) (Pz dC dI [.ref h0, .int 4, .int 400] sz [(h0, .inr (5, [.int 0, .int 0, .null, .int 0]))] []) (va_Qv (fun (_ : Unit) => True) (fun (_ : Unit) (t : State) => ∃ (q1 : Nat) (b2 : ClassId), va_P (dC, dI) vC [(h0, .inr (5, [.int 4, .int 400, .ref q1, .int 0])), (q1, .inl (b2, 1600, .inl (fun _ => 0)))] t.heap ∧ va_K (dC, dI) vC [(b2, .int)] t ∧ va_D (va_A [(h0, .inr (5, [.int 0, .int 0, .null, .int 0]))] sz) [(h0, .inr (5, [.int 4, .int 400, .ref q1, .int 0])), (q1, .inl (b2, 1600, .inl (fun _ => 0)))]) (va_A [(h0, .inr (5, [.int 0, .int 0, .null, .int 0]))] sz)) 1 1600 (va_A [(h0, .inr (5, [.int 0, .int 0, .null, .int 0]))] sz) := by
  refine Met.ofW (cc := cX9_init) (maxL := 3) (ret := none) (by decide) rfl ?_
  intro p e s m args below meth c s₁ B hml hv
  obtain ⟨rfl, hsz, hP, hK, hD0⟩ := hv
  have hx := B.exec
  have hb := B.bytes
  have hr := B.returns
  have hts := atoms_spec (ws := .code yX9_init cX9_init 3 none :: wP) B.pre
  have hw : ∀ w ∈ wP, w.before _ s = true := fun w h => hts w (List.mem_cons_of_mem _ h)
  have hown : s.vm.findClass RX9 = some m.cls := findClass_of_methodNamed B.named
  have hlocks := B.notSynchronized
  have hin : meth.name = "<init>" := (name_of_methodNamed B.named B.method).1
  subst hsz
  have hD := hD0.self (sz := s.heap.size)
  generalize hAe : va_A [(h0, .inr (5, [.int 0, .int 0, .null, .int 0]))] s.heap.size = A at hD ⊢
  have hA : ∀ q : Nat, s.heap.size ≤ q → A q := fun q h => by rw [← hAe]; exact Or.inr h
  have hS : va_S A s.heap s.heap [] := va_S.rf
  have hP : va_P (dC, dI) vC [(h0, .inr (5, [.int 0, .int 0, .null, .int 0]))] s.heap := hP
  have hl := lv_entry ([.ref h0, .int 4, .int 400]) (n := 3) (Nat.le_of_ble_eq_true rfl)
  rw [lg_entry_eq]
  generalize (lg_sl ([.ref h0, .int 4, .int 400]) ++ List.replicate (3 - (lg_sl ([.ref h0, .int 4, .int 400])).length) Slot.unset).toArray = ls at hl ⊢
  have hl : lv_has ls 3 [(0, .ref h0), (1, .int 4), (2, .int 400)] := hl
  refine lv_aload_n hx hb dX9_init_0 rfl (lv_at hl 0 rfl) ?_
  refine W.objInit hx hb hown (hw _ mP_172) (hw _ mP_28) (hw _ mP_29) rfl (by rw [hml]; exact hl.1) rfl dX9_init_1 (Nat.le_of_ble_eq_true rfl) (Nat.le_of_ble_eq_true rfl) ?_
  refine W.eq (g2 := F0 m 4 ls []) rfl ?_
  refine lv_aload_n hx hb dX9_init_4 rfl (lv_at hl 0 rfl) ?_
  refine lv_iconst (v := 1) hx hb dX9_init_5 (by decide) ?_
  refine lv_iload_n hx hb dX9_init_6 rfl (lv_at hl 1 rfl) ?_
  refine va_mmax hx hb (hml.trans hl.1.symm) hown (hw _ mP_173) (hw _ mP_174) (hw _ mP_175) (hw _ mP_176) (Nat.le_of_ble_eq_true rfl) (Nat.le_of_ble_eq_true rfl) (Nat.le_of_ble_eq_true rfl) (Nat.le_of_ble_eq_true rfl) dX9_init_7 ?_
  refine lv_nmi (y := 4) (by decide +kernel) ?_
  refine va_putF (D := (dC, dI)) (ci := 5) (v := .int 4) (ty := .int) (C := RX9) (T := TX9) (N := 4) hx hb hw inX9 tyX9 tyX9_ok nmX9 hown hK hP hD hS 0 rfl rfl 0 (by decide) (hw _ mP_177) (fun _ h9 => h9) rfl hin rfl (tyX9_ok 0 (by decide)) rfl rfl (Nat.le_of_ble_eq_true rfl) dX9_init_10 (fun H locs hP hD hS => ?_)
  have hP : va_P (dC, dI) vC [(h0, .inr (5, [.int 4, .int 0, .null, .int 0]))] H := hP
  have hD : va_D A [(h0, .inr (5, [.int 4, .int 0, .null, .int 0]))] := hD
  refine lv_aload_n hx hb dX9_init_13 rfl (lv_at hl 0 rfl) ?_
  refine lv_iconst (v := 0) hx hb dX9_init_14 (by decide) ?_
  refine lv_iload_n hx hb dX9_init_15 rfl (lv_at hl 2 rfl) ?_
  refine va_mmax hx hb (hml.trans hl.1.symm) hown (hw _ mP_173) (hw _ mP_174) (hw _ mP_175) (hw _ mP_176) (Nat.le_of_ble_eq_true rfl) (Nat.le_of_ble_eq_true rfl) (Nat.le_of_ble_eq_true rfl) (Nat.le_of_ble_eq_true rfl) dX9_init_16 ?_
  refine lv_nmi (y := 400) (by decide +kernel) ?_
  refine va_putF (D := (dC, dI)) (ci := 5) (v := .int 400) (ty := .int) (C := RX9) (T := TX9) (N := 4) hx hb hw inX9 tyX9 tyX9_ok nmX9 hown hK hP hD hS 0 rfl rfl 1 (by decide) (hw _ mP_178) (fun _ h9 => h9) rfl hin rfl (tyX9_ok 1 (by decide)) rfl rfl (Nat.le_of_ble_eq_true rfl) dX9_init_19 (fun H locs hP hD hS => ?_)
  have hP : va_P (dC, dI) vC [(h0, .inr (5, [.int 4, .int 400, .null, .int 0]))] H := hP
  have hD : va_D A [(h0, .inr (5, [.int 4, .int 400, .null, .int 0]))] := hD
  refine lv_aload_n hx hb dX9_init_22 rfl (lv_at hl 0 rfl) ?_
  refine lv_aload_n hx hb dX9_init_23 rfl (lv_at hl 0 rfl) ?_
  refine va_get (D := (dC, dI)) (ci := 5) (v := .int 4) (C := RX9) (T := TX9) (N := 4) hx hb hw inX9 hown hK hP 0 rfl rfl 0 (by decide) (hw _ mP_177) (fun _ h9 => h9) rfl dX9_init_24 ?_
  refine lv_aload_n hx hb dX9_init_27 rfl (lv_at hl 0 rfl) ?_
  refine va_get (D := (dC, dI)) (ci := 5) (v := .int 400) (C := RX9) (T := TX9) (N := 4) hx hb hw inX9 hown hK hP 0 rfl rfl 1 (by decide) (hw _ mP_178) (fun _ h9 => h9) rfl dX9_init_28 ?_
  refine lv_imul hx hb dX9_init_31 ?_
  refine lv_nmi (y := 1600) (by decide +kernel) ?_
  refine va_newa (atype := .int) (ty := .int) (a0 := (1600, .inl (fun _ => 0))) hx hb (hw _ mP_32) rfl hK hP hD hS hA (fun _ => rfl) (by decide +kernel) (by decide +kernel) (by decide +kernel) (Nat.le_of_ble_eq_true rfl) (Nat.le_of_ble_eq_true rfl) dX9_init_32 (fun q1 b2 H hK hP hD hS => ?_)
  have hP : va_P (dC, dI) vC [(h0, .inr (5, [.int 4, .int 400, .null, .int 0])), (q1, .inl (b2, 1600, .inl (fun _ => 0)))] H := hP
  have hD : va_D A [(h0, .inr (5, [.int 4, .int 400, .null, .int 0])), (q1, .inl (b2, 1600, .inl (fun _ => 0)))] := hD
  have hK : va_K (dC, dI) vC [(b2, .int)] s := hK
  refine W.widen (k := 1) (n := 1600) (Nat.le_of_ble_eq_true rfl) (Nat.le_of_ble_eq_true rfl) ?_
  refine va_putF (D := (dC, dI)) (ci := 5) (v := .ref q1) (ty := .array .int) (C := RX9) (T := TX9) (N := 4) hx hb hw inX9 tyX9 tyX9_ok nmX9 hown hK hP hD hS 0 rfl rfl 2 (by decide) (hw _ mP_179) (fun _ h9 => h9) rfl hin rfl (tyX9_ok 2 (by decide)) rfl rfl (Nat.le_of_ble_eq_true rfl) dX9_init_34 (fun H locs hP hD hS => ?_)
  have hP : va_P (dC, dI) vC [(h0, .inr (5, [.int 4, .int 400, .ref q1, .int 0])), (q1, .inl (b2, 1600, .inl (fun _ => 0)))] H := hP
  have hD : va_D A [(h0, .inr (5, [.int 4, .int 400, .ref q1, .int 0])), (q1, .inl (b2, 1600, .inl (fun _ => 0)))] := hD
  refine W.widen (k := 1) (n := 1600) (Nat.le_of_ble_eq_true rfl) (Nat.le_of_ble_eq_true rfl) ?_
  exact W.vret hx hb hr (fun t ht hW => ⟨⟨(), rfl, trivial, q1, b2, by rw [ht]; exact hP, va_K.moved hW.alike hK, hD⟩, hS.F ht⟩) hS.2.2 dX9_init_37
set_option maxHeartbeats 4000000 in
set_option maxRecDepth 100000 in
theorem tX9_init_n6 (l : Launch) (dC : Nat → ClassId) (dI : Nat → Nat → Nat) (h0 : Nat) (sz : Nat) : Met l yX9_init (.code yX9_init cX9_init 3 none :: wP) ({ frames := 1, cells := 1, slots := 3000, locals := 21 }) (Pz dC dI [.ref h0, .int 6, .int 500] sz [(h0, .inr (5, [.int 0, .int 0, .null, .int 0]))] []) (va_Qv (fun (_ : Unit) => True) (fun (_ : Unit) (t : State) => ∃ (q1 : Nat) (b2 : ClassId), va_P (dC, dI) vC [(h0, .inr (5, [.int 6, .int 500, .ref q1, .int 0])), (q1, .inl (b2, 3000, .inl (fun _ => 0)))] t.heap ∧ va_K (dC, dI) vC [(b2, .int)] t ∧ va_D (va_A [(h0, .inr (5, [.int 0, .int 0, .null, .int 0]))] sz) [(h0, .inr (5, [.int 6, .int 500, .ref q1, .int 0])), (q1, .inl (b2, 3000, .inl (fun _ => 0)))]) (va_A [(h0, .inr (5, [.int 0, .int 0, .null, .int 0]))] sz)) 1 3000 (va_A [(h0, .inr (5, [.int 0, .int 0, .null, .int 0]))] sz) := by
  refine Met.ofW (cc := cX9_init) (maxL := 3) (ret := none) (by decide) rfl ?_
  intro p e s m args below meth c s₁ B hml hv
  obtain ⟨rfl, hsz, hP, hK, hD0⟩ := hv
  have hx := B.exec
  have hb := B.bytes
  have hr := B.returns
  have hts := atoms_spec (ws := .code yX9_init cX9_init 3 none :: wP) B.pre
  have hw : ∀ w ∈ wP, w.before _ s = true := fun w h => hts w (List.mem_cons_of_mem _ h)
  have hown : s.vm.findClass RX9 = some m.cls := findClass_of_methodNamed B.named
  have hlocks := B.notSynchronized
  have hin : meth.name = "<init>" := (name_of_methodNamed B.named B.method).1
  subst hsz
  have hD := hD0.self (sz := s.heap.size)
  generalize hAe : va_A [(h0, .inr (5, [.int 0, .int 0, .null, .int 0]))] s.heap.size = A at hD ⊢
  have hA : ∀ q : Nat, s.heap.size ≤ q → A q := fun q h => by rw [← hAe]; exact Or.inr h
  have hS : va_S A s.heap s.heap [] := va_S.rf
  have hP : va_P (dC, dI) vC [(h0, .inr (5, [.int 0, .int 0, .null, .int 0]))] s.heap := hP
  have hl := lv_entry ([.ref h0, .int 6, .int 500]) (n := 3) (Nat.le_of_ble_eq_true rfl)
  rw [lg_entry_eq]
  generalize (lg_sl ([.ref h0, .int 6, .int 500]) ++ List.replicate (3 - (lg_sl ([.ref h0, .int 6, .int 500])).length) Slot.unset).toArray = ls at hl ⊢
  have hl : lv_has ls 3 [(0, .ref h0), (1, .int 6), (2, .int 500)] := hl
  refine lv_aload_n hx hb dX9_init_0 rfl (lv_at hl 0 rfl) ?_
  refine W.objInit hx hb hown (hw _ mP_172) (hw _ mP_28) (hw _ mP_29) rfl (by rw [hml]; exact hl.1) rfl dX9_init_1 (Nat.le_of_ble_eq_true rfl) (Nat.le_of_ble_eq_true rfl) ?_
  refine W.eq (g2 := F0 m 4 ls []) rfl ?_
  refine lv_aload_n hx hb dX9_init_4 rfl (lv_at hl 0 rfl) ?_
  refine lv_iconst (v := 1) hx hb dX9_init_5 (by decide) ?_
  refine lv_iload_n hx hb dX9_init_6 rfl (lv_at hl 1 rfl) ?_
  refine va_mmax hx hb (hml.trans hl.1.symm) hown (hw _ mP_173) (hw _ mP_174) (hw _ mP_175) (hw _ mP_176) (Nat.le_of_ble_eq_true rfl) (Nat.le_of_ble_eq_true rfl) (Nat.le_of_ble_eq_true rfl) (Nat.le_of_ble_eq_true rfl) dX9_init_7 ?_
  refine lv_nmi (y := 6) (by decide +kernel) ?_
  refine va_putF (D := (dC, dI)) (ci := 5) (v := .int 6) (ty := .int) (C := RX9) (T := TX9) (N := 4) hx hb hw inX9 tyX9 tyX9_ok nmX9 hown hK hP hD hS 0 rfl rfl 0 (by decide) (hw _ mP_177) (fun _ h9 => h9) rfl hin rfl (tyX9_ok 0 (by decide)) rfl rfl (Nat.le_of_ble_eq_true rfl) dX9_init_10 (fun H locs hP hD hS => ?_)
  have hP : va_P (dC, dI) vC [(h0, .inr (5, [.int 6, .int 0, .null, .int 0]))] H := hP
  have hD : va_D A [(h0, .inr (5, [.int 6, .int 0, .null, .int 0]))] := hD
  refine lv_aload_n hx hb dX9_init_13 rfl (lv_at hl 0 rfl) ?_
  refine lv_iconst (v := 0) hx hb dX9_init_14 (by decide) ?_
  refine lv_iload_n hx hb dX9_init_15 rfl (lv_at hl 2 rfl) ?_
  refine va_mmax hx hb (hml.trans hl.1.symm) hown (hw _ mP_173) (hw _ mP_174) (hw _ mP_175) (hw _ mP_176) (Nat.le_of_ble_eq_true rfl) (Nat.le_of_ble_eq_true rfl) (Nat.le_of_ble_eq_true rfl) (Nat.le_of_ble_eq_true rfl) dX9_init_16 ?_
  refine lv_nmi (y := 500) (by decide +kernel) ?_
  refine va_putF (D := (dC, dI)) (ci := 5) (v := .int 500) (ty := .int) (C := RX9) (T := TX9) (N := 4) hx hb hw inX9 tyX9 tyX9_ok nmX9 hown hK hP hD hS 0 rfl rfl 1 (by decide) (hw _ mP_178) (fun _ h9 => h9) rfl hin rfl (tyX9_ok 1 (by decide)) rfl rfl (Nat.le_of_ble_eq_true rfl) dX9_init_19 (fun H locs hP hD hS => ?_)
  have hP : va_P (dC, dI) vC [(h0, .inr (5, [.int 6, .int 500, .null, .int 0]))] H := hP
  have hD : va_D A [(h0, .inr (5, [.int 6, .int 500, .null, .int 0]))] := hD
  refine lv_aload_n hx hb dX9_init_22 rfl (lv_at hl 0 rfl) ?_
  refine lv_aload_n hx hb dX9_init_23 rfl (lv_at hl 0 rfl) ?_
  refine va_get (D := (dC, dI)) (ci := 5) (v := .int 6) (C := RX9) (T := TX9) (N := 4) hx hb hw inX9 hown hK hP 0 rfl rfl 0 (by decide) (hw _ mP_177) (fun _ h9 => h9) rfl dX9_init_24 ?_
  refine lv_aload_n hx hb dX9_init_27 rfl (lv_at hl 0 rfl) ?_
  refine va_get (D := (dC, dI)) (ci := 5) (v := .int 500) (C := RX9) (T := TX9) (N := 4) hx hb hw inX9 hown hK hP 0 rfl rfl 1 (by decide) (hw _ mP_178) (fun _ h9 => h9) rfl dX9_init_28 ?_
  refine lv_imul hx hb dX9_init_31 ?_
  refine lv_nmi (y := 3000) (by decide +kernel) ?_
  refine va_newa (atype := .int) (ty := .int) (a0 := (3000, .inl (fun _ => 0))) hx hb (hw _ mP_32) rfl hK hP hD hS hA (fun _ => rfl) (by decide +kernel) (by decide +kernel) (by decide +kernel) (Nat.le_of_ble_eq_true rfl) (Nat.le_of_ble_eq_true rfl) dX9_init_32 (fun q1 b2 H hK hP hD hS => ?_)
  have hP : va_P (dC, dI) vC [(h0, .inr (5, [.int 6, .int 500, .null, .int 0])), (q1, .inl (b2, 3000, .inl (fun _ => 0)))] H := hP
  have hD : va_D A [(h0, .inr (5, [.int 6, .int 500, .null, .int 0])), (q1, .inl (b2, 3000, .inl (fun _ => 0)))] := hD
  have hK : va_K (dC, dI) vC [(b2, .int)] s := hK
  refine W.widen (k := 1) (n := 3000) (Nat.le_of_ble_eq_true rfl) (Nat.le_of_ble_eq_true rfl) ?_
  refine va_putF (D := (dC, dI)) (ci := 5) (v := .ref q1) (ty := .array .int) (C := RX9) (T := TX9) (N := 4) hx hb hw inX9 tyX9 tyX9_ok nmX9 hown hK hP hD hS 0 rfl rfl 2 (by decide) (hw _ mP_179) (fun _ h9 => h9) rfl hin rfl (tyX9_ok 2 (by decide)) rfl rfl (Nat.le_of_ble_eq_true rfl) dX9_init_34 (fun H locs hP hD hS => ?_)
  have hP : va_P (dC, dI) vC [(h0, .inr (5, [.int 6, .int 500, .ref q1, .int 0])), (q1, .inl (b2, 3000, .inl (fun _ => 0)))] H := hP
  have hD : va_D A [(h0, .inr (5, [.int 6, .int 500, .ref q1, .int 0])), (q1, .inl (b2, 3000, .inl (fun _ => 0)))] := hD
  refine W.widen (k := 1) (n := 3000) (Nat.le_of_ble_eq_true rfl) (Nat.le_of_ble_eq_true rfl) ?_
  exact W.vret hx hb hr (fun t ht hW => ⟨⟨(), rfl, trivial, q1, b2, by rw [ht]; exact hP, va_K.moved hW.alike hK, hD⟩, hS.F ht⟩) hS.2.2 dX9_init_37
set_option maxHeartbeats 4000000 in
set_option maxRecDepth 100000 in
theorem tX1_init_n1 (l : Launch) (dC : Nat → ClassId) (dI : Nat → Nat → Nat) (h0 : Nat) (sz : Nat) : Met l yX1_init (.code yX1_init cX1_init 1 none :: wP) ({ frames := 1, cells := 6, slots := 180, locals := 20 }) (Pz dC dI [.ref h0] sz [(h0, .inr (0, [.null, .null, .null, .null, .null, .null, .int 0, .int 0]))] []) (va_Qv (fun (_ : Unit) => True) (fun (_ : Unit) (t : State) => ∃ (q1 : Nat) (q3 : Nat) (q5 : Nat) (q7 : Nat) (q9 : Nat) (q11 : Nat), va_P (dC, dI) vC [(h0, .inr (0, [.ref q1, .ref q3, .ref q5, .ref q7, .ref q9, .ref q11, .int 0, .int 0]))] t.heap ∧ va_K (dC, dI) vC [] t ∧ va_D (va_A [(h0, .inr (0, [.null, .null, .null, .null, .null, .null, .int 0, .int 0]))] sz) [(h0, .inr (0, [.ref q1, .ref q3, .ref q5, .ref q7, .ref q9, .ref q11, .int 0, .int 0]))]) (va_A [(h0, .inr (0, [.null, .null, .null, .null, .null, .null, .int 0, .int 0]))] sz)) 6 180 (va_A [(h0, .inr (0, [.null, .null, .null, .null, .null, .null, .int 0, .int 0]))] sz) := by
  refine Met.ofW (cc := cX1_init) (maxL := 1) (ret := none) (by decide) rfl ?_
  intro p e s m args below meth c s₁ B hml hv
  obtain ⟨rfl, hsz, hP, hK, hD0⟩ := hv
  have hx := B.exec
  have hb := B.bytes
  have hr := B.returns
  have hts := atoms_spec (ws := .code yX1_init cX1_init 1 none :: wP) B.pre
  have hw : ∀ w ∈ wP, w.before _ s = true := fun w h => hts w (List.mem_cons_of_mem _ h)
  have hown : s.vm.findClass RX1 = some m.cls := findClass_of_methodNamed B.named
  have hlocks := B.notSynchronized
  have hin : meth.name = "<init>" := (name_of_methodNamed B.named B.method).1
  subst hsz
  have hD := hD0.self (sz := s.heap.size)
  generalize hAe : va_A [(h0, .inr (0, [.null, .null, .null, .null, .null, .null, .int 0, .int 0]))] s.heap.size = A at hD ⊢
  have hA : ∀ q : Nat, s.heap.size ≤ q → A q := fun q h => by rw [← hAe]; exact Or.inr h
  have hS : va_S A s.heap s.heap [] := va_S.rf
  have hP : va_P (dC, dI) vC [(h0, .inr (0, [.null, .null, .null, .null, .null, .null, .int 0, .int 0]))] s.heap := hP
  have hl := lv_entry ([.ref h0]) (n := 1) (Nat.le_of_ble_eq_true rfl)
  rw [lg_entry_eq]
  generalize (lg_sl ([.ref h0]) ++ List.replicate (1 - (lg_sl ([.ref h0])).length) Slot.unset).toArray = ls at hl ⊢
  have hl : lv_has ls 1 [(0, .ref h0)] := hl
  refine lv_aload_n hx hb dX1_init_0 rfl (lv_at hl 0 rfl) ?_
  refine W.objInit hx hb hown (hw _ mP_235) (hw _ mP_28) (hw _ mP_29) rfl (by rw [hml]; exact hl.1) rfl dX1_init_1 (Nat.le_of_ble_eq_true rfl) (Nat.le_of_ble_eq_true rfl) ?_
  refine W.eq (g2 := F0 m 4 ls []) rfl ?_
  refine lv_aload_n hx hb dX1_init_4 rfl (lv_at hl 0 rfl) ?_
  refine lv_bipush (v := 30) hx hb dX1_init_5 (by decide) ?_
  refine va_newa (atype := .int) (ty := .int) (a0 := (30, .inl (fun _ => 0))) hx hb (hw _ mP_32) rfl hK hP hD hS hA (fun _ => rfl) (by decide +kernel) (by decide +kernel) (by decide +kernel) (Nat.le_of_ble_eq_true rfl) (Nat.le_of_ble_eq_true rfl) dX1_init_7 (fun q1 b2 H hK hP hD hS => ?_)
  have hP : va_P (dC, dI) vC [(h0, .inr (0, [.null, .null, .null, .null, .null, .null, .int 0, .int 0])), (q1, .inl (b2, 30, .inl (fun _ => 0)))] H := hP
  have hD : va_D A [(h0, .inr (0, [.null, .null, .null, .null, .null, .null, .int 0, .int 0])), (q1, .inl (b2, 30, .inl (fun _ => 0)))] := hD
  have hK : va_K (dC, dI) vC [(b2, .int)] s := hK
  refine W.widen (k := 1) (n := 30) (Nat.le_of_ble_eq_true rfl) (Nat.le_of_ble_eq_true rfl) ?_
  refine va_putF (D := (dC, dI)) (ci := 0) (v := .ref q1) (ty := .array .int) (C := RX1) (T := TX1) (N := 8) hx hb hw inX1 tyX1 tyX1_ok nmX1 hown hK hP hD hS 0 rfl rfl 0 (by decide) (hw _ mP_236) (fun _ h9 => h9) rfl hin rfl (tyX1_ok 0 (by decide)) rfl rfl (Nat.le_of_ble_eq_true rfl) dX1_init_9 (fun H locs hP hD hS => ?_)
  have hP : va_P (dC, dI) vC [(h0, .inr (0, [.ref q1, .null, .null, .null, .null, .null, .int 0, .int 0])), (q1, .inl (b2, 30, .inl (fun _ => 0)))] H := hP
  have hD : va_D A [(h0, .inr (0, [.ref q1, .null, .null, .null, .null, .null, .int 0, .int 0])), (q1, .inl (b2, 30, .inl (fun _ => 0)))] := hD
  have hP := hP.sub (ws' := [(h0, .inr (0, [.ref q1, .null, .null, .null, .null, .null, .int 0, .int 0]))]) [0] rfl
  have hD := hD.sub (ws' := [(h0, .inr (0, [.ref q1, .null, .null, .null, .null, .null, .int 0, .int 0]))]) [0] (by decide) rfl
  have hK := hK.sub (tys' := []) [] rfl
  refine lv_aload_n hx hb dX1_init_12 rfl (lv_at hl 0 rfl) ?_
  refine lv_bipush (v := 30) hx hb dX1_init_13 (by decide) ?_
  refine va_newa (atype := .int) (ty := .int) (a0 := (30, .inl (fun _ => 0))) hx hb (hw _ mP_32) rfl hK hP hD hS hA (fun _ => rfl) (by decide +kernel) (by decide +kernel) (by decide +kernel) (Nat.le_of_ble_eq_true rfl) (Nat.le_of_ble_eq_true rfl) dX1_init_15 (fun q3 b4 H hK hP hD hS => ?_)
  have hP : va_P (dC, dI) vC [(h0, .inr (0, [.ref q1, .null, .null, .null, .null, .null, .int 0, .int 0])), (q3, .inl (b4, 30, .inl (fun _ => 0)))] H := hP
  have hD : va_D A [(h0, .inr (0, [.ref q1, .null, .null, .null, .null, .null, .int 0, .int 0])), (q3, .inl (b4, 30, .inl (fun _ => 0)))] := hD
  have hK : va_K (dC, dI) vC [(b4, .int)] s := hK
  refine W.widen (k := 2) (n := 60) (Nat.le_of_ble_eq_true rfl) (Nat.le_of_ble_eq_true rfl) ?_
  refine va_putF (D := (dC, dI)) (ci := 0) (v := .ref q3) (ty := .array .int) (C := RX1) (T := TX1) (N := 8) hx hb hw inX1 tyX1 tyX1_ok nmX1 hown hK hP hD hS 0 rfl rfl 1 (by decide) (hw _ mP_237) (fun _ h9 => h9) rfl hin rfl (tyX1_ok 1 (by decide)) rfl rfl (Nat.le_of_ble_eq_true rfl) dX1_init_17 (fun H locs hP hD hS => ?_)
  have hP : va_P (dC, dI) vC [(h0, .inr (0, [.ref q1, .ref q3, .null, .null, .null, .null, .int 0, .int 0])), (q3, .inl (b4, 30, .inl (fun _ => 0)))] H := hP
  have hD : va_D A [(h0, .inr (0, [.ref q1, .ref q3, .null, .null, .null, .null, .int 0, .int 0])), (q3, .inl (b4, 30, .inl (fun _ => 0)))] := hD
  have hP := hP.sub (ws' := [(h0, .inr (0, [.ref q1, .ref q3, .null, .null, .null, .null, .int 0, .int 0]))]) [0] rfl
  have hD := hD.sub (ws' := [(h0, .inr (0, [.ref q1, .ref q3, .null, .null, .null, .null, .int 0, .int 0]))]) [0] (by decide) rfl
  have hK := hK.sub (tys' := []) [] rfl
  refine lv_aload_n hx hb dX1_init_20 rfl (lv_at hl 0 rfl) ?_
  refine lv_bipush (v := 30) hx hb dX1_init_21 (by decide) ?_
  refine va_newa (atype := .int) (ty := .int) (a0 := (30, .inl (fun _ => 0))) hx hb (hw _ mP_32) rfl hK hP hD hS hA (fun _ => rfl) (by decide +kernel) (by decide +kernel) (by decide +kernel) (Nat.le_of_ble_eq_true rfl) (Nat.le_of_ble_eq_true rfl) dX1_init_23 (fun q5 b6 H hK hP hD hS => ?_)
  have hP : va_P (dC, dI) vC [(h0, .inr (0, [.ref q1, .ref q3, .null, .null, .null, .null, .int 0, .int 0])), (q5, .inl (b6, 30, .inl (fun _ => 0)))] H := hP
  have hD : va_D A [(h0, .inr (0, [.ref q1, .ref q3, .null, .null, .null, .null, .int 0, .int 0])), (q5, .inl (b6, 30, .inl (fun _ => 0)))] := hD
  have hK : va_K (dC, dI) vC [(b6, .int)] s := hK
  refine W.widen (k := 3) (n := 90) (Nat.le_of_ble_eq_true rfl) (Nat.le_of_ble_eq_true rfl) ?_
  refine va_putF (D := (dC, dI)) (ci := 0) (v := .ref q5) (ty := .array .int) (C := RX1) (T := TX1) (N := 8) hx hb hw inX1 tyX1 tyX1_ok nmX1 hown hK hP hD hS 0 rfl rfl 2 (by decide) (hw _ mP_238) (fun _ h9 => h9) rfl hin rfl (tyX1_ok 2 (by decide)) rfl rfl (Nat.le_of_ble_eq_true rfl) dX1_init_25 (fun H locs hP hD hS => ?_)
  have hP : va_P (dC, dI) vC [(h0, .inr (0, [.ref q1, .ref q3, .ref q5, .null, .null, .null, .int 0, .int 0])), (q5, .inl (b6, 30, .inl (fun _ => 0)))] H := hP
  have hD : va_D A [(h0, .inr (0, [.ref q1, .ref q3, .ref q5, .null, .null, .null, .int 0, .int 0])), (q5, .inl (b6, 30, .inl (fun _ => 0)))] := hD
  have hP := hP.sub (ws' := [(h0, .inr (0, [.ref q1, .ref q3, .ref q5, .null, .null, .null, .int 0, .int 0]))]) [0] rfl
  have hD := hD.sub (ws' := [(h0, .inr (0, [.ref q1, .ref q3, .ref q5, .null, .null, .null, .int 0, .int 0]))]) [0] (by decide) rfl
  have hK := hK.sub (tys' := []) [] rfl
  refine lv_aload_n hx hb dX1_init_28 rfl (lv_at hl 0 rfl) ?_
  refine lv_bipush (v := 30) hx hb dX1_init_29 (by decide) ?_
  refine va_newa (atype := .int) (ty := .int) (a0 := (30, .inl (fun _ => 0))) hx hb (hw _ mP_32) rfl hK hP hD hS hA (fun _ => rfl) (by decide +kernel) (by decide +kernel) (by decide +kernel) (Nat.le_of_ble_eq_true rfl) (Nat.le_of_ble_eq_true rfl) dX1_init_31 (fun q7 b8 H hK hP hD hS => ?_)
  have hP : va_P (dC, dI) vC [(h0, .inr (0, [.ref q1, .ref q3, .ref q5, .null, .null, .null, .int 0, .int 0])), (q7, .inl (b8, 30, .inl (fun _ => 0)))] H := hP
  have hD : va_D A [(h0, .inr (0, [.ref q1, .ref q3, .ref q5, .null, .null, .null, .int 0, .int 0])), (q7, .inl (b8, 30, .inl (fun _ => 0)))] := hD
  have hK : va_K (dC, dI) vC [(b8, .int)] s := hK
  refine W.widen (k := 4) (n := 120) (Nat.le_of_ble_eq_true rfl) (Nat.le_of_ble_eq_true rfl) ?_
  refine va_putF (D := (dC, dI)) (ci := 0) (v := .ref q7) (ty := .array .int) (C := RX1) (T := TX1) (N := 8) hx hb hw inX1 tyX1 tyX1_ok nmX1 hown hK hP hD hS 0 rfl rfl 3 (by decide) (hw _ mP_239) (fun _ h9 => h9) rfl hin rfl (tyX1_ok 3 (by decide)) rfl rfl (Nat.le_of_ble_eq_true rfl) dX1_init_33 (fun H locs hP hD hS => ?_)
  have hP : va_P (dC, dI) vC [(h0, .inr (0, [.ref q1, .ref q3, .ref q5, .ref q7, .null, .null, .int 0, .int 0])), (q7, .inl (b8, 30, .inl (fun _ => 0)))] H := hP
  have hD : va_D A [(h0, .inr (0, [.ref q1, .ref q3, .ref q5, .ref q7, .null, .null, .int 0, .int 0])), (q7, .inl (b8, 30, .inl (fun _ => 0)))] := hD
  have hP := hP.sub (ws' := [(h0, .inr (0, [.ref q1, .ref q3, .ref q5, .ref q7, .null, .null, .int 0, .int 0]))]) [0] rfl
  have hD := hD.sub (ws' := [(h0, .inr (0, [.ref q1, .ref q3, .ref q5, .ref q7, .null, .null, .int 0, .int 0]))]) [0] (by decide) rfl
  have hK := hK.sub (tys' := []) [] rfl
  refine lv_aload_n hx hb dX1_init_36 rfl (lv_at hl 0 rfl) ?_
  refine lv_bipush (v := 30) hx hb dX1_init_37 (by decide) ?_
  refine va_newa (atype := .int) (ty := .int) (a0 := (30, .inl (fun _ => 0))) hx hb (hw _ mP_32) rfl hK hP hD hS hA (fun _ => rfl) (by decide +kernel) (by decide +kernel) (by decide +kernel) (Nat.le_of_ble_eq_true rfl) (Nat.le_of_ble_eq_true rfl) dX1_init_39 (fun q9 b10 H hK hP hD hS => ?_)
  have hP : va_P (dC, dI) vC [(h0, .inr (0, [.ref q1, .ref q3, .ref q5, .ref q7, .null, .null, .int 0, .int 0])), (q9, .inl (b10, 30, .inl (fun _ => 0)))] H := hP
  have hD : va_D A [(h0, .inr (0, [.ref q1, .ref q3, .ref q5, .ref q7, .null, .null, .int 0, .int 0])), (q9, .inl (b10, 30, .inl (fun _ => 0)))] := hD
  have hK : va_K (dC, dI) vC [(b10, .int)] s := hK
  refine W.widen (k := 5) (n := 150) (Nat.le_of_ble_eq_true rfl) (Nat.le_of_ble_eq_true rfl) ?_
  refine va_putF (D := (dC, dI)) (ci := 0) (v := .ref q9) (ty := .array .int) (C := RX1) (T := TX1) (N := 8) hx hb hw inX1 tyX1 tyX1_ok nmX1 hown hK hP hD hS 0 rfl rfl 4 (by decide) (hw _ mP_240) (fun _ h9 => h9) rfl hin rfl (tyX1_ok 4 (by decide)) rfl rfl (Nat.le_of_ble_eq_true rfl) dX1_init_41 (fun H locs hP hD hS => ?_)
  have hP : va_P (dC, dI) vC [(h0, .inr (0, [.ref q1, .ref q3, .ref q5, .ref q7, .ref q9, .null, .int 0, .int 0])), (q9, .inl (b10, 30, .inl (fun _ => 0)))] H := hP
  have hD : va_D A [(h0, .inr (0, [.ref q1, .ref q3, .ref q5, .ref q7, .ref q9, .null, .int 0, .int 0])), (q9, .inl (b10, 30, .inl (fun _ => 0)))] := hD
  have hP := hP.sub (ws' := [(h0, .inr (0, [.ref q1, .ref q3, .ref q5, .ref q7, .ref q9, .null, .int 0, .int 0]))]) [0] rfl
  have hD := hD.sub (ws' := [(h0, .inr (0, [.ref q1, .ref q3, .ref q5, .ref q7, .ref q9, .null, .int 0, .int 0]))]) [0] (by decide) rfl
  have hK := hK.sub (tys' := []) [] rfl
  refine lv_aload_n hx hb dX1_init_44 rfl (lv_at hl 0 rfl) ?_
  refine lv_bipush (v := 30) hx hb dX1_init_45 (by decide) ?_
  refine va_newa (atype := .int) (ty := .int) (a0 := (30, .inl (fun _ => 0))) hx hb (hw _ mP_32) rfl hK hP hD hS hA (fun _ => rfl) (by decide +kernel) (by decide +kernel) (by decide +kernel) (Nat.le_of_ble_eq_true rfl) (Nat.le_of_ble_eq_true rfl) dX1_init_47 (fun q11 b12 H hK hP hD hS => ?_)
  have hP : va_P (dC, dI) vC [(h0, .inr (0, [.ref q1, .ref q3, .ref q5, .ref q7, .ref q9, .null, .int 0, .int 0])), (q11, .inl (b12, 30, .inl (fun _ => 0)))] H := hP
  have hD : va_D A [(h0, .inr (0, [.ref q1, .ref q3, .ref q5, .ref q7, .ref q9, .null, .int 0, .int 0])), (q11, .inl (b12, 30, .inl (fun _ => 0)))] := hD
  have hK : va_K (dC, dI) vC [(b12, .int)] s := hK
  refine W.widen (k := 6) (n := 180) (Nat.le_of_ble_eq_true rfl) (Nat.le_of_ble_eq_true rfl) ?_
  refine va_putF (D := (dC, dI)) (ci := 0) (v := .ref q11) (ty := .array .int) (C := RX1) (T := TX1) (N := 8) hx hb hw inX1 tyX1 tyX1_ok nmX1 hown hK hP hD hS 0 rfl rfl 5 (by decide) (hw _ mP_241) (fun _ h9 => h9) rfl hin rfl (tyX1_ok 5 (by decide)) rfl rfl (Nat.le_of_ble_eq_true rfl) dX1_init_49 (fun H locs hP hD hS => ?_)
  have hP : va_P (dC, dI) vC [(h0, .inr (0, [.ref q1, .ref q3, .ref q5, .ref q7, .ref q9, .ref q11, .int 0, .int 0])), (q11, .inl (b12, 30, .inl (fun _ => 0)))] H := hP
  have hD : va_D A [(h0, .inr (0, [.ref q1, .ref q3, .ref q5, .ref q7, .ref q9, .ref q11, .int 0, .int 0])), (q11, .inl (b12, 30, .inl (fun _ => 0)))] := hD
  have hP := hP.sub (ws' := [(h0, .inr (0, [.ref q1, .ref q3, .ref q5, .ref q7, .ref q9, .ref q11, .int 0, .int 0]))]) [0] rfl
  have hD := hD.sub (ws' := [(h0, .inr (0, [.ref q1, .ref q3, .ref q5, .ref q7, .ref q9, .ref q11, .int 0, .int 0]))]) [0] (by decide) rfl
  have hK := hK.sub (tys' := []) [] rfl
  refine W.widen (k := 6) (n := 180) (Nat.le_of_ble_eq_true rfl) (Nat.le_of_ble_eq_true rfl) ?_
  exact W.vret hx hb hr (fun t ht hW => ⟨⟨(), rfl, trivial, q1, q3, q5, q7, q9, q11, by rw [ht]; exact hP, va_K.moved hW.alike hK, hD⟩, hS.F ht⟩) hS.2.2 dX1_init_52
