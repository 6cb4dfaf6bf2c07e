set_option maxHeartbeats 4000000 in
set_option maxRecDepth 100000 in
theorem tX11_append_n4 (l : Launch) (dC : Nat → ClassId) (dI : Nat → Nat → Nat) (h0 h1 h2 : Nat) (sz : Nat) (k0 k1 : ClassId) (x0 : Int32) (f_0 : Nat → Int32) : Met l yX11_append (.code yX11_append cX11_append 3 none :: wP) ({ frames := 0, cells := 0, slots := 0, locals := 0 }) (Pz dC dI [.ref h0, .int x0] sz [(h0, .inr (7, [.ref h1, .int 12, .ref h2, .int 0, .int (-1), .null, .null, .null, .null, .null, .null, .null, .null, .null, .null])), (h1, .inl (k0, 4000, .inl f_0)), (h2, .inl (k1, 50, .inl (fun _ => 0)))] [(k0, .byte), (k1, .int)]) (va_Qv (fun (_ : Unit) => True) (fun (_ : Unit) (t : State) => ∃ (f12 : Nat → Int32), va_P (dC, dI) vC [(h0, .inr (7, [.ref h1, .int 16, .ref h2, .int 0, .int (-1), .null, .null, .null, .null, .null, .null, .null, .null, .null, .null])), (h1, .inl (k0, 4000, .inl f12)), (h2, .inl (k1, 50, .inl (fun _ => 0)))] t.heap ∧ va_K (dC, dI) vC [(k0, .byte), (k1, .int)] t ∧ va_D (va_A [(h0, .inr (7, [.ref h1, .int 12, .ref h2, .int 0, .int (-1), .null, .null, .null, .null, .null, .null, .null, .null, .null, .null])), (h1, .inl (k0, 4000, .inl f_0)), (h2, .inl (k1, 50, .inl (fun _ => 0)))] sz) [(h0, .inr (7, [.ref h1, .int 16, .ref h2, .int 0, .int (-1), .null, .null, .null, .null, .null, .null, .null, .null, .null, .null])), (h1, .inl (k0, 4000, .inl f12)), (h2, .inl (k1, 50, .inl (fun _ => 0)))]) (va_A [(h0, .inr (7, [.ref h1, .int 12, .ref h2, .int 0, .int (-1), .null, .null, .null, .null, .null, .null, .null, .null, .null, .null])), (h1, .inl (k0, 4000, .inl f_0)), (h2, .inl (k1, 50, .inl (fun _ => 0)))] sz)) 0 0 (va_A [(h0, .inr (7, [.ref h1, .int 12, .ref h2, .int 0, .int (-1), .null, .null, .null, .null, .null, .null, .null, .null, .null, .null])), (h1, .inl (k0, 4000, .inl f_0)), (h2, .inl (k1, 50, .inl (fun _ => 0)))] sz) := by
  refine Met.ofW (cc := cX11_append) (maxL := 3) (ret := none) (by decide) rfl ?_
  intro p e s m args below meth c s₁ B hml hv
  obtain ⟨rfl, hsz, hP, hK, hD0⟩ := hv
  have hx := B.exec
  have hb := B.bytes
  have hr := B.returns
  have hts := atoms_spec (ws := .code yX11_append cX11_append 3 none :: wP) B.pre
  have hw : ∀ w ∈ wP, w.before _ s = true := fun w h => hts w (List.mem_cons_of_mem _ h)
  have hown : s.vm.findClass RX11 = some m.cls := findClass_of_methodNamed B.named
  have hlocks := B.notSynchronized
  subst hsz
  have hD := hD0.self (sz := s.heap.size)
  generalize hAe : va_A [(h0, .inr (7, [.ref h1, .int 12, .ref h2, .int 0, .int (-1), .null, .null, .null, .null, .null, .null, .null, .null, .null, .null])), (h1, .inl (k0, 4000, .inl f_0)), (h2, .inl (k1, 50, .inl (fun _ => 0)))] s.heap.size = A at hD ⊢
  have hA : ∀ q : Nat, s.heap.size ≤ q → A q := fun q h => by rw [← hAe]; exact Or.inr h
  have hS : va_S A s.heap s.heap [] := va_S.rf
  have hP : va_P (dC, dI) vC [(h0, .inr (7, [.ref h1, .int 12, .ref h2, .int 0, .int (-1), .null, .null, .null, .null, .null, .null, .null, .null, .null, .null])), (h1, .inl (k0, 4000, .inl f_0)), (h2, .inl (k1, 50, .inl (fun _ => 0)))] s.heap := hP
  have hl := lv_entry ([.ref h0, .int x0]) (n := 3) (Nat.le_of_ble_eq_true rfl)
  rw [lg_entry_eq]
  generalize (lg_sl ([.ref h0, .int x0]) ++ List.replicate (3 - (lg_sl ([.ref h0, .int x0])).length) Slot.unset).toArray = ls at hl ⊢
  have hl : lv_has ls 3 [(0, .ref h0), (1, .int x0)] := hl
  refine lv_bipush (v := 24) hx hb dX11_append_0 (by decide) ?_
  refine lv_istore_n (lv' := [(2, .int 24), (0, .ref h0), (1, .int x0)]) hx hb dX11_append_2 rfl hl (by decide) rfl (fun ls hl => ?_)
  refine lv_iload_n hx hb dX11_append_3 rfl (lv_at hl 0 rfl) ?_
  refine lv_if_lt (tgt := 48) hx hb dX11_append_4 (by decide) (fun c => absurd c (by decide +kernel)) (fun _ => ?_)
  refine lv_aload_n hx hb dX11_append_7 rfl (lv_at hl 1 rfl) ?_
  refine va_get (D := (dC, dI)) (ci := 7) (v := .int 12) (C := RX11) (T := TX11) (N := 15) hx hb hw inX11 hown hK hP 0 rfl rfl 1 (by decide) (hw _ mP_138) (fun _ h9 => h9) rfl dX11_append_8 ?_
  refine lv_aload_n hx hb dX11_append_11 rfl (lv_at hl 1 rfl) ?_
  refine va_get (D := (dC, dI)) (ci := 7) (v := .ref h1) (C := RX11) (T := TX11) (N := 15) hx hb hw inX11 hown hK hP 0 rfl rfl 0 (by decide) (hw _ mP_31) (fun _ h9 => h9) rfl dX11_append_12 ?_
  refine va_alen (v := 4000) hx hb hK hP 1 0 rfl rfl (show Int32.ofNat 4000 = 4000 by decide +kernel) dX11_append_15 ?_
  refine lv_icmp_ge (tgt := 42) hx hb dX11_append_16 (by decide) (fun c => absurd c (by decide +kernel)) (fun _ => ?_)
  refine lv_aload_n hx hb dX11_append_19 rfl (lv_at hl 1 rfl) ?_
  refine va_get (D := (dC, dI)) (ci := 7) (v := .ref h1) (C := RX11) (T := TX11) (N := 15) hx hb hw inX11 hown hK hP 0 rfl rfl 0 (by decide) (hw _ mP_31) (fun _ h9 => h9) rfl dX11_append_20 ?_
  refine lv_aload_n hx hb dX11_append_23 rfl (lv_at hl 1 rfl) ?_
  refine va_get (D := (dC, dI)) (ci := 7) (v := .int 12) (C := RX11) (T := TX11) (N := 15) hx hb hw inX11 hown hK hP 0 rfl rfl 1 (by decide) (hw _ mP_138) (fun _ h9 => h9) rfl dX11_append_24 ?_
  refine lv_iload_n hx hb dX11_append_27 rfl (lv_at hl 2 rfl) ?_
  refine lv_iload_n hx hb dX11_append_28 rfl (lv_at hl 0 rfl) ?_
  refine lv_ishr hx hb dX11_append_29 ?_
  refine lv_topi (fun z1 ez1 => ?_)
  refine lv_i2b hx hb dX11_append_30 rfl ?_
  refine lv_topi (fun z2 ez2 => ?_)
  refine va_bast hx hb hK hP hD hS 1 0 rfl rfl (vin (by decide +kernel)) dX11_append_31 (fun H locs hP hD hS => ?_)
  obtain ⟨f3, hP, hD⟩ : ∃ f3 : Nat → Int32, va_P (dC, dI) vC [(h0, .inr (7, [.ref h1, .int 12, .ref h2, .int 0, .int (-1), .null, .null, .null, .null, .null, .null, .null, .null, .null, .null])), (h1, .inl (k0, 4000, .inl f3)), (h2, .inl (k1, 50, .inl (fun _ => 0)))] H ∧ va_D A [(h0, .inr (7, [.ref h1, .int 12, .ref h2, .int 0, .int (-1), .null, .null, .null, .null, .null, .null, .null, .null, .null, .null])), (h1, .inl (k0, 4000, .inl f3)), (h2, .inl (k1, 50, .inl (fun _ => 0)))] := ⟨_, hP, hD⟩
  refine lv_aload_n hx hb dX11_append_32 rfl (lv_at hl 1 rfl) ?_
  refine lv_dup hx hb dX11_append_33 rfl ?_
  refine va_get (D := (dC, dI)) (ci := 7) (v := .int 12) (C := RX11) (T := TX11) (N := 15) hx hb hw inX11 hown hK hP 0 rfl rfl 1 (by decide) (hw _ mP_138) (fun _ h9 => h9) rfl dX11_append_34 ?_
  refine lv_iconst (v := 1) hx hb dX11_append_37 (by decide) ?_
  refine lv_iadd hx hb dX11_append_38 ?_
  refine lv_nmi (y := 13) (by decide +kernel) ?_
  refine va_put (D := (dC, dI)) (ci := 7) (v := .int 13) (ty := .int) (C := RX11) (T := TX11) (N := 15) hx hb hw inX11 tyX11 tyX11_ok nmX11 hown hK hP hD hS 0 rfl rfl 1 (by decide) (hw _ mP_138) (fun _ h9 => h9) rfl (tyX11_ok 1 (by decide)) rfl rfl (Nat.le_of_ble_eq_true rfl) dX11_append_39 (fun H locs hP hD hS => ?_)
  have hP : va_P (dC, dI) vC [(h0, .inr (7, [.ref h1, .int 13, .ref h2, .int 0, .int (-1), .null, .null, .null, .null, .null, .null, .null, .null, .null, .null])), (h1, .inl (k0, 4000, .inl f3)), (h2, .inl (k1, 50, .inl (fun _ => 0)))] H := hP
  have hD : va_D A [(h0, .inr (7, [.ref h1, .int 13, .ref h2, .int 0, .int (-1), .null, .null, .null, .null, .null, .null, .null, .null, .null, .null])), (h1, .inl (k0, 4000, .inl f3)), (h2, .inl (k1, 50, .inl (fun _ => 0)))] := hD
  refine lv_iinc (v := 16) (lv' := [(2, .int 16), (0, .ref h0), (1, .int x0)]) hx hb dX11_append_42 hl (k := 0) rfl (by decide +kernel) (by decide) rfl (fun ls hl => ?_)
  refine lv_goto (tgt := 3) hx hb dX11_append_45 (by decide) ?_
  refine lv_iload_n hx hb dX11_append_3 rfl (lv_at hl 0 rfl) ?_
  refine lv_if_lt (tgt := 48) hx hb dX11_append_4 (by decide) (fun c => absurd c (by decide +kernel)) (fun _ => ?_)
  refine lv_aload_n hx hb dX11_append_7 rfl (lv_at hl 1 rfl) ?_
  refine va_get (D := (dC, dI)) (ci := 7) (v := .int 13) (C := RX11) (T := TX11) (N := 15) hx hb hw inX11 hown hK hP 0 rfl rfl 1 (by decide) (hw _ mP_138) (fun _ h9 => h9) rfl dX11_append_8 ?_
  refine lv_aload_n hx hb dX11_append_11 rfl (lv_at hl 1 rfl) ?_
  refine va_get (D := (dC, dI)) (ci := 7) (v := .ref h1) (C := RX11) (T := TX11) (N := 15) hx hb hw inX11 hown hK hP 0 rfl rfl 0 (by decide) (hw _ mP_31) (fun _ h9 => h9) rfl dX11_append_12 ?_
  refine va_alen (v := 4000) hx hb hK hP 1 0 rfl rfl (show Int32.ofNat 4000 = 4000 by decide +kernel) dX11_append_15 ?_
  refine lv_icmp_ge (tgt := 42) hx hb dX11_append_16 (by decide) (fun c => absurd c (by decide +kernel)) (fun _ => ?_)
  refine lv_aload_n hx hb dX11_append_19 rfl (lv_at hl 1 rfl) ?_
  refine va_get (D := (dC, dI)) (ci := 7) (v := .ref h1) (C := RX11) (T := TX11) (N := 15) hx hb hw inX11 hown hK hP 0 rfl rfl 0 (by decide) (hw _ mP_31) (fun _ h9 => h9) rfl dX11_append_20 ?_
  refine lv_aload_n hx hb dX11_append_23 rfl (lv_at hl 1 rfl) ?_
  refine va_get (D := (dC, dI)) (ci := 7) (v := .int 13) (C := RX11) (T := TX11) (N := 15) hx hb hw inX11 hown hK hP 0 rfl rfl 1 (by decide) (hw _ mP_138) (fun _ h9 => h9) rfl dX11_append_24 ?_
  refine lv_iload_n hx hb dX11_append_27 rfl (lv_at hl 2 rfl) ?_
  refine lv_iload_n hx hb dX11_append_28 rfl (lv_at hl 0 rfl) ?_
  refine lv_ishr hx hb dX11_append_29 ?_
  refine lv_topi (fun z4 ez4 => ?_)
  refine lv_i2b hx hb dX11_append_30 rfl ?_
  refine lv_topi (fun z5 ez5 => ?_)
  refine va_bast hx hb hK hP hD hS 1 0 rfl rfl (vin (by decide +kernel)) dX11_append_31 (fun H locs hP hD hS => ?_)
  obtain ⟨f6, hP, hD⟩ : ∃ f6 : Nat → Int32, va_P (dC, dI) vC [(h0, .inr (7, [.ref h1, .int 13, .ref h2, .int 0, .int (-1), .null, .null, .null, .null, .null, .null, .null, .null, .null, .null])), (h1, .inl (k0, 4000, .inl f6)), (h2, .inl (k1, 50, .inl (fun _ => 0)))] H ∧ va_D A [(h0, .inr (7, [.ref h1, .int 13, .ref h2, .int 0, .int (-1), .null, .null, .null, .null, .null, .null, .null, .null, .null, .null])), (h1, .inl (k0, 4000, .inl f6)), (h2, .inl (k1, 50, .inl (fun _ => 0)))] := ⟨_, hP, hD⟩
  refine lv_aload_n hx hb dX11_append_32 rfl (lv_at hl 1 rfl) ?_
  refine lv_dup hx hb dX11_append_33 rfl ?_
  refine va_get (D := (dC, dI)) (ci := 7) (v := .int 13) (C := RX11) (T := TX11) (N := 15) hx hb hw inX11 hown hK hP 0 rfl rfl 1 (by decide) (hw _ mP_138) (fun _ h9 => h9) rfl dX11_append_34 ?_
  refine lv_iconst (v := 1) hx hb dX11_append_37 (by decide) ?_
  refine lv_iadd hx hb dX11_append_38 ?_
  refine lv_nmi (y := 14) (by decide +kernel) ?_
  refine va_put (D := (dC, dI)) (ci := 7) (v := .int 14) (ty := .int) (C := RX11) (T := TX11) (N := 15) hx hb hw inX11 tyX11 tyX11_ok nmX11 hown hK hP hD hS 0 rfl rfl 1 (by decide) (hw _ mP_138) (fun _ h9 => h9) rfl (tyX11_ok 1 (by decide)) rfl rfl (Nat.le_of_ble_eq_true rfl) dX11_append_39 (fun H locs hP hD hS => ?_)
  have hP : va_P (dC, dI) vC [(h0, .inr (7, [.ref h1, .int 14, .ref h2, .int 0, .int (-1), .null, .null, .null, .null, .null, .null, .null, .null, .null, .null])), (h1, .inl (k0, 4000, .inl f6)), (h2, .inl (k1, 50, .inl (fun _ => 0)))] H := hP
  have hD : va_D A [(h0, .inr (7, [.ref h1, .int 14, .ref h2, .int 0, .int (-1), .null, .null, .null, .null, .null, .null, .null, .null, .null, .null])), (h1, .inl (k0, 4000, .inl f6)), (h2, .inl (k1, 50, .inl (fun _ => 0)))] := hD
  refine lv_iinc (v := 8) (lv' := [(2, .int 8), (0, .ref h0), (1, .int x0)]) hx hb dX11_append_42 hl (k := 0) rfl (by decide +kernel) (by decide) rfl (fun ls hl => ?_)
  refine lv_goto (tgt := 3) hx hb dX11_append_45 (by decide) ?_
  refine lv_iload_n hx hb dX11_append_3 rfl (lv_at hl 0 rfl) ?_
  refine lv_if_lt (tgt := 48) hx hb dX11_append_4 (by decide) (fun c => absurd c (by decide +kernel)) (fun _ => ?_)
  refine lv_aload_n hx hb dX11_append_7 rfl (lv_at hl 1 rfl) ?_
  refine va_get (D := (dC, dI)) (ci := 7) (v := .int 14) (C := RX11) (T := TX11) (N := 15) hx hb hw inX11 hown hK hP 0 rfl rfl 1 (by decide) (hw _ mP_138) (fun _ h9 => h9) rfl dX11_append_8 ?_
  refine lv_aload_n hx hb dX11_append_11 rfl (lv_at hl 1 rfl) ?_
  refine va_get (D := (dC, dI)) (ci := 7) (v := .ref h1) (C := RX11) (T := TX11) (N := 15) hx hb hw inX11 hown hK hP 0 rfl rfl 0 (by decide) (hw _ mP_31) (fun _ h9 => h9) rfl dX11_append_12 ?_
  refine va_alen (v := 4000) hx hb hK hP 1 0 rfl rfl (show Int32.ofNat 4000 = 4000 by decide +kernel) dX11_append_15 ?_
  refine lv_icmp_ge (tgt := 42) hx hb dX11_append_16 (by decide) (fun c => absurd c (by decide +kernel)) (fun _ => ?_)
  refine lv_aload_n hx hb dX11_append_19 rfl (lv_at hl 1 rfl) ?_
  refine va_get (D := (dC, dI)) (ci := 7) (v := .ref h1) (C := RX11) (T := TX11) (N := 15) hx hb hw inX11 hown hK hP 0 rfl rfl 0 (by decide) (hw _ mP_31) (fun _ h9 => h9) rfl dX11_append_20 ?_
  refine lv_aload_n hx hb dX11_append_23 rfl (lv_at hl 1 rfl) ?_
  refine va_get (D := (dC, dI)) (ci := 7) (v := .int 14) (C := RX11) (T := TX11) (N := 15) hx hb hw inX11 hown hK hP 0 rfl rfl 1 (by decide) (hw _ mP_138) (fun _ h9 => h9) rfl dX11_append_24 ?_
  refine lv_iload_n hx hb dX11_append_27 rfl (lv_at hl 2 rfl) ?_
  refine lv_iload_n hx hb dX11_append_28 rfl (lv_at hl 0 rfl) ?_
  refine lv_ishr hx hb dX11_append_29 ?_
  refine lv_topi (fun z7 ez7 => ?_)
  refine lv_i2b hx hb dX11_append_30 rfl ?_
  refine lv_topi (fun z8 ez8 => ?_)
  refine va_bast hx hb hK hP hD hS 1 0 rfl rfl (vin (by decide +kernel)) dX11_append_31 (fun H locs hP hD hS => ?_)
  obtain ⟨f9, hP, hD⟩ : ∃ f9 : Nat → Int32, va_P (dC, dI) vC [(h0, .inr (7, [.ref h1, .int 14, .ref h2, .int 0, .int (-1), .null, .null, .null, .null, .null, .null, .null, .null, .null, .null])), (h1, .inl (k0, 4000, .inl f9)), (h2, .inl (k1, 50, .inl (fun _ => 0)))] H ∧ va_D A [(h0, .inr (7, [.ref h1, .int 14, .ref h2, .int 0, .int (-1), .null, .null, .null, .null, .null, .null, .null, .null, .null, .null])), (h1, .inl (k0, 4000, .inl f9)), (h2, .inl (k1, 50, .inl (fun _ => 0)))] := ⟨_, hP, hD⟩
  refine lv_aload_n hx hb dX11_append_32 rfl (lv_at hl 1 rfl) ?_
  refine lv_dup hx hb dX11_append_33 rfl ?_
  refine va_get (D := (dC, dI)) (ci := 7) (v := .int 14) (C := RX11) (T := TX11) (N := 15) hx hb hw inX11 hown hK hP 0 rfl rfl 1 (by decide) (hw _ mP_138) (fun _ h9 => h9) rfl dX11_append_34 ?_
  refine lv_iconst (v := 1) hx hb dX11_append_37 (by decide) ?_
  refine lv_iadd hx hb dX11_append_38 ?_
  refine lv_nmi (y := 15) (by decide +kernel) ?_
  refine va_put (D := (dC, dI)) (ci := 7) (v := .int 15) (ty := .int) (C := RX11) (T := TX11) (N := 15) hx hb hw inX11 tyX11 tyX11_ok nmX11 hown hK hP hD hS 0 rfl rfl 1 (by decide) (hw _ mP_138) (fun _ h9 => h9) rfl (tyX11_ok 1 (by decide)) rfl rfl (Nat.le_of_ble_eq_true rfl) dX11_append_39 (fun H locs hP hD hS => ?_)
  have hP : va_P (dC, dI) vC [(h0, .inr (7, [.ref h1, .int 15, .ref h2, .int 0, .int (-1), .null, .null, .null, .null, .null, .null, .null, .null, .null, .null])), (h1, .inl (k0, 4000, .inl f9)), (h2, .inl (k1, 50, .inl (fun _ => 0)))] H := hP
  have hD : va_D A [(h0, .inr (7, [.ref h1, .int 15, .ref h2, .int 0, .int (-1), .null, .null, .null, .null, .null, .null, .null, .null, .null, .null])), (h1, .inl (k0, 4000, .inl f9)), (h2, .inl (k1, 50, .inl (fun _ => 0)))] := hD
  refine lv_iinc (v := 0) (lv' := [(2, .int 0), (0, .ref h0), (1, .int x0)]) hx hb dX11_append_42 hl (k := 0) rfl (by decide +kernel) (by decide) rfl (fun ls hl => ?_)
  refine lv_goto (tgt := 3) hx hb dX11_append_45 (by decide) ?_
  refine lv_iload_n hx hb dX11_append_3 rfl (lv_at hl 0 rfl) ?_
  refine lv_if_lt (tgt := 48) hx hb dX11_append_4 (by decide) (fun c => absurd c (by decide +kernel)) (fun _ => ?_)
  refine lv_aload_n hx hb dX11_append_7 rfl (lv_at hl 1 rfl) ?_
  refine va_get (D := (dC, dI)) (ci := 7) (v := .int 15) (C := RX11) (T := TX11) (N := 15) hx hb hw inX11 hown hK hP 0 rfl rfl 1 (by decide) (hw _ mP_138) (fun _ h9 => h9) rfl dX11_append_8 ?_
  refine lv_aload_n hx hb dX11_append_11 rfl (lv_at hl 1 rfl) ?_
  refine va_get (D := (dC, dI)) (ci := 7) (v := .ref h1) (C := RX11) (T := TX11) (N := 15) hx hb hw inX11 hown hK hP 0 rfl rfl 0 (by decide) (hw _ mP_31) (fun _ h9 => h9) rfl dX11_append_12 ?_
  refine va_alen (v := 4000) hx hb hK hP 1 0 rfl rfl (show Int32.ofNat 4000 = 4000 by decide +kernel) dX11_append_15 ?_
  refine lv_icmp_ge (tgt := 42) hx hb dX11_append_16 (by decide) (fun c => absurd c (by decide +kernel)) (fun _ => ?_)
  refine lv_aload_n hx hb dX11_append_19 rfl (lv_at hl 1 rfl) ?_
  refine va_get (D := (dC, dI)) (ci := 7) (v := .ref h1) (C := RX11) (T := TX11) (N := 15) hx hb hw inX11 hown hK hP 0 rfl rfl 0 (by decide) (hw _ mP_31) (fun _ h9 => h9) rfl dX11_append_20 ?_
  refine lv_aload_n hx hb dX11_append_23 rfl (lv_at hl 1 rfl) ?_
  refine va_get (D := (dC, dI)) (ci := 7) (v := .int 15) (C := RX11) (T := TX11) (N := 15) hx hb hw inX11 hown hK hP 0 rfl rfl 1 (by decide) (hw _ mP_138) (fun _ h9 => h9) rfl dX11_append_24 ?_
  refine lv_iload_n hx hb dX11_append_27 rfl (lv_at hl 2 rfl) ?_
  refine lv_iload_n hx hb dX11_append_28 rfl (lv_at hl 0 rfl) ?_
  refine lv_ishr hx hb dX11_append_29 ?_
  refine lv_topi (fun z10 ez10 => ?_)
  refine lv_i2b hx hb dX11_append_30 rfl ?_
  refine lv_topi (fun z11 ez11 => ?_)
  refine va_bast hx hb hK hP hD hS 1 0 rfl rfl (vin (by decide +kernel)) dX11_append_31 (fun H locs hP hD hS => ?_)
  obtain ⟨f12, hP, hD⟩ : ∃ f12 : Nat → Int32, va_P (dC, dI) vC [(h0, .inr (7, [.ref h1, .int 15, .ref h2, .int 0, .int (-1), .null, .null, .null, .null, .null, .null, .null, .null, .null, .null])), (h1, .inl (k0, 4000, .inl f12)), (h2, .inl (k1, 50, .inl (fun _ => 0)))] H ∧ va_D A [(h0, .inr (7, [.ref h1, .int 15, .ref h2, .int 0, .int (-1), .null, .null, .null, .null, .null, .null, .null, .null, .null, .null])), (h1, .inl (k0, 4000, .inl f12)), (h2, .inl (k1, 50, .inl (fun _ => 0)))] := ⟨_, hP, hD⟩
  refine lv_aload_n hx hb dX11_append_32 rfl (lv_at hl 1 rfl) ?_
  refine lv_dup hx hb dX11_append_33 rfl ?_
  refine va_get (D := (dC, dI)) (ci := 7) (v := .int 15) (C := RX11) (T := TX11) (N := 15) hx hb hw inX11 hown hK hP 0 rfl rfl 1 (by decide) (hw _ mP_138) (fun _ h9 => h9) rfl dX11_append_34 ?_
  refine lv_iconst (v := 1) hx hb dX11_append_37 (by decide) ?_
  refine lv_iadd hx hb dX11_append_38 ?_
  refine lv_nmi (y := 16) (by decide +kernel) ?_
  refine va_put (D := (dC, dI)) (ci := 7) (v := .int 16) (ty := .int) (C := RX11) (T := TX11) (N := 15) hx hb hw inX11 tyX11 tyX11_ok nmX11 hown hK hP hD hS 0 rfl rfl 1 (by decide) (hw _ mP_138) (fun _ h9 => h9) rfl (tyX11_ok 1 (by decide)) rfl rfl (Nat.le_of_ble_eq_true rfl) dX11_append_39 (fun H locs hP hD hS => ?_)
  have hP : va_P (dC, dI) vC [(h0, .inr (7, [.ref h1, .int 16, .ref h2, .int 0, .int (-1), .null, .null, .null, .null, .null, .null, .null, .null, .null, .null])), (h1, .inl (k0, 4000, .inl f12)), (h2, .inl (k1, 50, .inl (fun _ => 0)))] H := hP
  have hD : va_D A [(h0, .inr (7, [.ref h1, .int 16, .ref h2, .int 0, .int (-1), .null, .null, .null, .null, .null, .null, .null, .null, .null, .null])), (h1, .inl (k0, 4000, .inl f12)), (h2, .inl (k1, 50, .inl (fun _ => 0)))] := hD
  refine lv_iinc (v := (-8)) (lv' := [(2, .int (-8)), (0, .ref h0), (1, .int x0)]) hx hb dX11_append_42 hl (k := 0) rfl (by decide +kernel) (by decide) rfl (fun ls hl => ?_)
  refine lv_goto (tgt := 3) hx hb dX11_append_45 (by decide) ?_
  refine lv_iload_n hx hb dX11_append_3 rfl (lv_at hl 0 rfl) ?_
  refine lv_if_lt (tgt := 48) hx hb dX11_append_4 (by decide) (fun _ => ?_) (fun c => absurd (by decide +kernel) c)
  refine W.widen (k := 0) (n := 0) (Nat.le_of_ble_eq_true rfl) (Nat.le_of_ble_eq_true rfl) ?_
  exact W.vret hx hb hr (fun t ht hW => ⟨⟨(), rfl, trivial, f12, by rw [ht]; exact hP, va_K.moved hW.alike hK, hD⟩, hS.F ht⟩) hS.2.2 dX11_append_48
set_option maxHeartbeats 4000000 in
set_option maxRecDepth 100000 in
theorem tX11_append_n5 (l : Launch) (dC : Nat → ClassId) (dI : Nat → Nat → Nat) (h0 h1 h2 : Nat) (sz : Nat) (k0 k1 : ClassId) (x0 : Int32) (f_0 : Nat → Int32) : Met l yX11_append (.code yX11_append cX11_append 3 none :: wP) ({ frames := 0, cells := 0, slots := 0, locals := 0 }) (Pz dC dI [.ref h0, .int x0] sz [(h0, .inr (7, [.ref h1, .int 16, .ref h2, .int 0, .int (-1), .null, .null, .null, .null, .null, .null, .null, .null, .null, .null])), (h1, .inl (k0, 4000, .inl f_0)), (h2, .inl (k1, 50, .inl (fun _ => 0)))] [(k0, .byte), (k1, .int)]) (va_Qv (fun (_ : Unit) => True) (fun (_ : Unit) (t : State) => ∃ (f12 : Nat → Int32), va_P (dC, dI) vC [(h0, .inr (7, [.ref h1, .int 20, .ref h2, .int 0, .int (-1), .null, .null, .null, .null, .null, .null, .null, .null, .null, .null])), (h1, .inl (k0, 4000, .inl f12)), (h2, .inl (k1, 50, .inl (fun _ => 0)))] t.heap ∧ va_K (dC, dI) vC [(k0, .byte), (k1, .int)] t ∧ va_D (va_A [(h0, .inr (7, [.ref h1, .int 16, .ref h2, .int 0, .int (-1), .null, .null, .null, .null, .null, .null, .null, .null, .null, .null])), (h1, .inl (k0, 4000, .inl f_0)), (h2, .inl (k1, 50, .inl (fun _ => 0)))] sz) [(h0, .inr (7, [.ref h1, .int 20, .ref h2, .int 0, .int (-1), .null, .null, .null, .null, .null, .null, .null, .null, .null, .null])), (h1, .inl (k0, 4000, .inl f12)), (h2, .inl (k1, 50, .inl (fun _ => 0)))]) (va_A [(h0, .inr (7, [.ref h1, .int 16, .ref h2, .int 0, .int (-1), .null, .null, .null, .null, .null, .null, .null, .null, .null, .null])), (h1, .inl (k0, 4000, .inl f_0)), (h2, .inl (k1, 50, .inl (fun _ => 0)))] sz)) 0 0 (va_A [(h0, .inr (7, [.ref h1, .int 16, .ref h2, .int 0, .int (-1), .null, .null, .null, .null, .null, .null, .null, .null, .null, .null])), (h1, .inl (k0, 4000, .inl f_0)), (h2, .inl (k1, 50, .inl (fun _ => 0)))] sz) := by
  refine Met.ofW (cc := cX11_append) (maxL := 3) (ret := none) (by decide) rfl ?_
  intro p e s m args below meth c s₁ B hml hv
  obtain ⟨rfl, hsz, hP, hK, hD0⟩ := hv
  have hx := B.exec
  have hb := B.bytes
  have hr := B.returns
  have hts := atoms_spec (ws := .code yX11_append cX11_append 3 none :: wP) B.pre
  have hw : ∀ w ∈ wP, w.before _ s = true := fun w h => hts w (List.mem_cons_of_mem _ h)
  have hown : s.vm.findClass RX11 = some m.cls := findClass_of_methodNamed B.named
  have hlocks := B.notSynchronized
  subst hsz
  have hD := hD0.self (sz := s.heap.size)
  generalize hAe : va_A [(h0, .inr (7, [.ref h1, .int 16, .ref h2, .int 0, .int (-1), .null, .null, .null, .null, .null, .null, .null, .null, .null, .null])), (h1, .inl (k0, 4000, .inl f_0)), (h2, .inl (k1, 50, .inl (fun _ => 0)))] s.heap.size = A at hD ⊢
  have hA : ∀ q : Nat, s.heap.size ≤ q → A q := fun q h => by rw [← hAe]; exact Or.inr h
  have hS : va_S A s.heap s.heap [] := va_S.rf
  have hP : va_P (dC, dI) vC [(h0, .inr (7, [.ref h1, .int 16, .ref h2, .int 0, .int (-1), .null, .null, .null, .null, .null, .null, .null, .null, .null, .null])), (h1, .inl (k0, 4000, .inl f_0)), (h2, .inl (k1, 50, .inl (fun _ => 0)))] s.heap := hP
  have hl := lv_entry ([.ref h0, .int x0]) (n := 3) (Nat.le_of_ble_eq_true rfl)
  rw [lg_entry_eq]
  generalize (lg_sl ([.ref h0, .int x0]) ++ List.replicate (3 - (lg_sl ([.ref h0, .int x0])).length) Slot.unset).toArray = ls at hl ⊢
  have hl : lv_has ls 3 [(0, .ref h0), (1, .int x0)] := hl
  refine lv_bipush (v := 24) hx hb dX11_append_0 (by decide) ?_
  refine lv_istore_n (lv' := [(2, .int 24), (0, .ref h0), (1, .int x0)]) hx hb dX11_append_2 rfl hl (by decide) rfl (fun ls hl => ?_)
  refine lv_iload_n hx hb dX11_append_3 rfl (lv_at hl 0 rfl) ?_
  refine lv_if_lt (tgt := 48) hx hb dX11_append_4 (by decide) (fun c => absurd c (by decide +kernel)) (fun _ => ?_)
  refine lv_aload_n hx hb dX11_append_7 rfl (lv_at hl 1 rfl) ?_
  refine va_get (D := (dC, dI)) (ci := 7) (v := .int 16) (C := RX11) (T := TX11) (N := 15) hx hb hw inX11 hown hK hP 0 rfl rfl 1 (by decide) (hw _ mP_138) (fun _ h9 => h9) rfl dX11_append_8 ?_
  refine lv_aload_n hx hb dX11_append_11 rfl (lv_at hl 1 rfl) ?_
  refine va_get (D := (dC, dI)) (ci := 7) (v := .ref h1) (C := RX11) (T := TX11) (N := 15) hx hb hw inX11 hown hK hP 0 rfl rfl 0 (by decide) (hw _ mP_31) (fun _ h9 => h9) rfl dX11_append_12 ?_
  refine va_alen (v := 4000) hx hb hK hP 1 0 rfl rfl (show Int32.ofNat 4000 = 4000 by decide +kernel) dX11_append_15 ?_
  refine lv_icmp_ge (tgt := 42) hx hb dX11_append_16 (by decide) (fun c => absurd c (by decide +kernel)) (fun _ => ?_)
  refine lv_aload_n hx hb dX11_append_19 rfl (lv_at hl 1 rfl) ?_
  refine va_get (D := (dC, dI)) (ci := 7) (v := .ref h1) (C := RX11) (T := TX11) (N := 15) hx hb hw inX11 hown hK hP 0 rfl rfl 0 (by decide) (hw _ mP_31) (fun _ h9 => h9) rfl dX11_append_20 ?_
  refine lv_aload_n hx hb dX11_append_23 rfl (lv_at hl 1 rfl) ?_
  refine va_get (D := (dC, dI)) (ci := 7) (v := .int 16) (C := RX11) (T := TX11) (N := 15) hx hb hw inX11 hown hK hP 0 rfl rfl 1 (by decide) (hw _ mP_138) (fun _ h9 => h9) rfl dX11_append_24 ?_
  refine lv_iload_n hx hb dX11_append_27 rfl (lv_at hl 2 rfl) ?_
  refine lv_iload_n hx hb dX11_append_28 rfl (lv_at hl 0 rfl) ?_
  refine lv_ishr hx hb dX11_append_29 ?_
  refine lv_topi (fun z1 ez1 => ?_)
  refine lv_i2b hx hb dX11_append_30 rfl ?_
  refine lv_topi (fun z2 ez2 => ?_)
  refine va_bast hx hb hK hP hD hS 1 0 rfl rfl (vin (by decide +kernel)) dX11_append_31 (fun H locs hP hD hS => ?_)
  obtain ⟨f3, hP, hD⟩ : ∃ f3 : Nat → Int32, va_P (dC, dI) vC [(h0, .inr (7, [.ref h1, .int 16, .ref h2, .int 0, .int (-1), .null, .null, .null, .null, .null, .null, .null, .null, .null, .null])), (h1, .inl (k0, 4000, .inl f3)), (h2, .inl (k1, 50, .inl (fun _ => 0)))] H ∧ va_D A [(h0, .inr (7, [.ref h1, .int 16, .ref h2, .int 0, .int (-1), .null, .null, .null, .null, .null, .null, .null, .null, .null, .null])), (h1, .inl (k0, 4000, .inl f3)), (h2, .inl (k1, 50, .inl (fun _ => 0)))] := ⟨_, hP, hD⟩
  refine lv_aload_n hx hb dX11_append_32 rfl (lv_at hl 1 rfl) ?_
  refine lv_dup hx hb dX11_append_33 rfl ?_
  refine va_get (D := (dC, dI)) (ci := 7) (v := .int 16) (C := RX11) (T := TX11) (N := 15) hx hb hw inX11 hown hK hP 0 rfl rfl 1 (by decide) (hw _ mP_138) (fun _ h9 => h9) rfl dX11_append_34 ?_
  refine lv_iconst (v := 1) hx hb dX11_append_37 (by decide) ?_
  refine lv_iadd hx hb dX11_append_38 ?_
  refine lv_nmi (y := 17) (by decide +kernel) ?_
  refine va_put (D := (dC, dI)) (ci := 7) (v := .int 17) (ty := .int) (C := RX11) (T := TX11) (N := 15) hx hb hw inX11 tyX11 tyX11_ok nmX11 hown hK hP hD hS 0 rfl rfl 1 (by decide) (hw _ mP_138) (fun _ h9 => h9) rfl (tyX11_ok 1 (by decide)) rfl rfl (Nat.le_of_ble_eq_true rfl) dX11_append_39 (fun H locs hP hD hS => ?_)
  have hP : va_P (dC, dI) vC [(h0, .inr (7, [.ref h1, .int 17, .ref h2, .int 0, .int (-1), .null, .null, .null, .null, .null, .null, .null, .null, .null, .null])), (h1, .inl (k0, 4000, .inl f3)), (h2, .inl (k1, 50, .inl (fun _ => 0)))] H := hP
  have hD : va_D A [(h0, .inr (7, [.ref h1, .int 17, .ref h2, .int 0, .int (-1), .null, .null, .null, .null, .null, .null, .null, .null, .null, .null])), (h1, .inl (k0, 4000, .inl f3)), (h2, .inl (k1, 50, .inl (fun _ => 0)))] := hD
  refine lv_iinc (v := 16) (lv' := [(2, .int 16), (0, .ref h0), (1, .int x0)]) hx hb dX11_append_42 hl (k := 0) rfl (by decide +kernel) (by decide) rfl (fun ls hl => ?_)
  refine lv_goto (tgt := 3) hx hb dX11_append_45 (by decide) ?_
  refine lv_iload_n hx hb dX11_append_3 rfl (lv_at hl 0 rfl) ?_
  refine lv_if_lt (tgt := 48) hx hb dX11_append_4 (by decide) (fun c => absurd c (by decide +kernel)) (fun _ => ?_)
  refine lv_aload_n hx hb dX11_append_7 rfl (lv_at hl 1 rfl) ?_
  refine va_get (D := (dC, dI)) (ci := 7) (v := .int 17) (C := RX11) (T := TX11) (N := 15) hx hb hw inX11 hown hK hP 0 rfl rfl 1 (by decide) (hw _ mP_138) (fun _ h9 => h9) rfl dX11_append_8 ?_
  refine lv_aload_n hx hb dX11_append_11 rfl (lv_at hl 1 rfl) ?_
  refine va_get (D := (dC, dI)) (ci := 7) (v := .ref h1) (C := RX11) (T := TX11) (N := 15) hx hb hw inX11 hown hK hP 0 rfl rfl 0 (by decide) (hw _ mP_31) (fun _ h9 => h9) rfl dX11_append_12 ?_
  refine va_alen (v := 4000) hx hb hK hP 1 0 rfl rfl (show Int32.ofNat 4000 = 4000 by decide +kernel) dX11_append_15 ?_
  refine lv_icmp_ge (tgt := 42) hx hb dX11_append_16 (by decide) (fun c => absurd c (by decide +kernel)) (fun _ => ?_)
  refine lv_aload_n hx hb dX11_append_19 rfl (lv_at hl 1 rfl) ?_
  refine va_get (D := (dC, dI)) (ci := 7) (v := .ref h1) (C := RX11) (T := TX11) (N := 15) hx hb hw inX11 hown hK hP 0 rfl rfl 0 (by decide) (hw _ mP_31) (fun _ h9 => h9) rfl dX11_append_20 ?_
  refine lv_aload_n hx hb dX11_append_23 rfl (lv_at hl 1 rfl) ?_
  refine va_get (D := (dC, dI)) (ci := 7) (v := .int 17) (C := RX11) (T := TX11) (N := 15) hx hb hw inX11 hown hK hP 0 rfl rfl 1 (by decide) (hw _ mP_138) (fun _ h9 => h9) rfl dX11_append_24 ?_
  refine lv_iload_n hx hb dX11_append_27 rfl (lv_at hl 2 rfl) ?_
  refine lv_iload_n hx hb dX11_append_28 rfl (lv_at hl 0 rfl) ?_
  refine lv_ishr hx hb dX11_append_29 ?_
  refine lv_topi (fun z4 ez4 => ?_)
  refine lv_i2b hx hb dX11_append_30 rfl ?_
  refine lv_topi (fun z5 ez5 => ?_)
  refine va_bast hx hb hK hP hD hS 1 0 rfl rfl (vin (by decide +kernel)) dX11_append_31 (fun H locs hP hD hS => ?_)
  obtain ⟨f6, hP, hD⟩ : ∃ f6 : Nat → Int32, va_P (dC, dI) vC [(h0, .inr (7, [.ref h1, .int 17, .ref h2, .int 0, .int (-1), .null, .null, .null, .null, .null, .null, .null, .null, .null, .null])), (h1, .inl (k0, 4000, .inl f6)), (h2, .inl (k1, 50, .inl (fun _ => 0)))] H ∧ va_D A [(h0, .inr (7, [.ref h1, .int 17, .ref h2, .int 0, .int (-1), .null, .null, .null, .null, .null, .null, .null, .null, .null, .null])), (h1, .inl (k0, 4000, .inl f6)), (h2, .inl (k1, 50, .inl (fun _ => 0)))] := ⟨_, hP, hD⟩
  refine lv_aload_n hx hb dX11_append_32 rfl (lv_at hl 1 rfl) ?_
  refine lv_dup hx hb dX11_append_33 rfl ?_
  refine va_get (D := (dC, dI)) (ci := 7) (v := .int 17) (C := RX11) (T := TX11) (N := 15) hx hb hw inX11 hown hK hP 0 rfl rfl 1 (by decide) (hw _ mP_138) (fun _ h9 => h9) rfl dX11_append_34 ?_
  refine lv_iconst (v := 1) hx hb dX11_append_37 (by decide) ?_
  refine lv_iadd hx hb dX11_append_38 ?_
  refine lv_nmi (y := 18) (by decide +kernel) ?_
  refine va_put (D := (dC, dI)) (ci := 7) (v := .int 18) (ty := .int) (C := RX11) (T := TX11) (N := 15) hx hb hw inX11 tyX11 tyX11_ok nmX11 hown hK hP hD hS 0 rfl rfl 1 (by decide) (hw _ mP_138) (fun _ h9 => h9) rfl (tyX11_ok 1 (by decide)) rfl rfl (Nat.le_of_ble_eq_true rfl) dX11_append_39 (fun H locs hP hD hS => ?_)
  have hP : va_P (dC, dI) vC [(h0, .inr (7, [.ref h1, .int 18, .ref h2, .int 0, .int (-1), .null, .null, .null, .null, .null, .null, .null, .null, .null, .null])), (h1, .inl (k0, 4000, .inl f6)), (h2, .inl (k1, 50, .inl (fun _ => 0)))] H := hP
  have hD : va_D A [(h0, .inr (7, [.ref h1, .int 18, .ref h2, .int 0, .int (-1), .null, .null, .null, .null, .null, .null, .null, .null, .null, .null])), (h1, .inl (k0, 4000, .inl f6)), (h2, .inl (k1, 50, .inl (fun _ => 0)))] := hD
  refine lv_iinc (v := 8) (lv' := [(2, .int 8), (0, .ref h0), (1, .int x0)]) hx hb dX11_append_42 hl (k := 0) rfl (by decide +kernel) (by decide) rfl (fun ls hl => ?_)
  refine lv_goto (tgt := 3) hx hb dX11_append_45 (by decide) ?_
  refine lv_iload_n hx hb dX11_append_3 rfl (lv_at hl 0 rfl) ?_
  refine lv_if_lt (tgt := 48) hx hb dX11_append_4 (by decide) (fun c => absurd c (by decide +kernel)) (fun _ => ?_)
  refine lv_aload_n hx hb dX11_append_7 rfl (lv_at hl 1 rfl) ?_
  refine va_get (D := (dC, dI)) (ci := 7) (v := .int 18) (C := RX11) (T := TX11) (N := 15) hx hb hw inX11 hown hK hP 0 rfl rfl 1 (by decide) (hw _ mP_138) (fun _ h9 => h9) rfl dX11_append_8 ?_
  refine lv_aload_n hx hb dX11_append_11 rfl (lv_at hl 1 rfl) ?_
  refine va_get (D := (dC, dI)) (ci := 7) (v := .ref h1) (C := RX11) (T := TX11) (N := 15) hx hb hw inX11 hown hK hP 0 rfl rfl 0 (by decide) (hw _ mP_31) (fun _ h9 => h9) rfl dX11_append_12 ?_
  refine va_alen (v := 4000) hx hb hK hP 1 0 rfl rfl (show Int32.ofNat 4000 = 4000 by decide +kernel) dX11_append_15 ?_
  refine lv_icmp_ge (tgt := 42) hx hb dX11_append_16 (by decide) (fun c => absurd c (by decide +kernel)) (fun _ => ?_)
  refine lv_aload_n hx hb dX11_append_19 rfl (lv_at hl 1 rfl) ?_
  refine va_get (D := (dC, dI)) (ci := 7) (v := .ref h1) (C := RX11) (T := TX11) (N := 15) hx hb hw inX11 hown hK hP 0 rfl rfl 0 (by decide) (hw _ mP_31) (fun _ h9 => h9) rfl dX11_append_20 ?_
  refine lv_aload_n hx hb dX11_append_23 rfl (lv_at hl 1 rfl) ?_
  refine va_get (D := (dC, dI)) (ci := 7) (v := .int 18) (C := RX11) (T := TX11) (N := 15) hx hb hw inX11 hown hK hP 0 rfl rfl 1 (by decide) (hw _ mP_138) (fun _ h9 => h9) rfl dX11_append_24 ?_
  refine lv_iload_n hx hb dX11_append_27 rfl (lv_at hl 2 rfl) ?_
  refine lv_iload_n hx hb dX11_append_28 rfl (lv_at hl 0 rfl) ?_
  refine lv_ishr hx hb dX11_append_29 ?_
  refine lv_topi (fun z7 ez7 => ?_)
  refine lv_i2b hx hb dX11_append_30 rfl ?_
  refine lv_topi (fun z8 ez8 => ?_)
  refine va_bast hx hb hK hP hD hS 1 0 rfl rfl (vin (by decide +kernel)) dX11_append_31 (fun H locs hP hD hS => ?_)
  obtain ⟨f9, hP, hD⟩ : ∃ f9 : Nat → Int32, va_P (dC, dI) vC [(h0, .inr (7, [.ref h1, .int 18, .ref h2, .int 0, .int (-1), .null, .null, .null, .null, .null, .null, .null, .null, .null, .null])), (h1, .inl (k0, 4000, .inl f9)), (h2, .inl (k1, 50, .inl (fun _ => 0)))] H ∧ va_D A [(h0, .inr (7, [.ref h1, .int 18, .ref h2, .int 0, .int (-1), .null, .null, .null, .null, .null, .null, .null, .null, .null, .null])), (h1, .inl (k0, 4000, .inl f9)), (h2, .inl (k1, 50, .inl (fun _ => 0)))] := ⟨_, hP, hD⟩
  refine lv_aload_n hx hb dX11_append_32 rfl (lv_at hl 1 rfl) ?_
  refine lv_dup hx hb dX11_append_33 rfl ?_
  refine va_get (D := (dC, dI)) (ci := 7) (v := .int 18) (C := RX11) (T := TX11) (N := 15) hx hb hw inX11 hown hK hP 0 rfl rfl 1 (by decide) (hw _ mP_138) (fun _ h9 => h9) rfl dX11_append_34 ?_
  refine lv_iconst (v := 1) hx hb dX11_append_37 (by decide) ?_
  refine lv_iadd hx hb dX11_append_38 ?_
  refine lv_nmi (y := 19) (by decide +kernel) ?_
  refine va_put (D := (dC, dI)) (ci := 7) (v := .int 19) (ty := .int) (C := RX11) (T := TX11) (N := 15) hx hb hw inX11 tyX11 tyX11_ok nmX11 hown hK hP hD hS 0 rfl rfl 1 (by decide) (hw _ mP_138) (fun _ h9 => h9) rfl (tyX11_ok 1 (by decide)) rfl rfl (Nat.le_of_ble_eq_true rfl) dX11_append_39 (fun H locs hP hD hS => ?_)
  have hP : va_P (dC, dI) vC [(h0, .inr (7, [.ref h1, .int 19, .ref h2, .int 0, .int (-1), .null, .null, .null, .null, .null, .null, .null, .null, .null, .null])), (h1, .inl (k0, 4000, .inl f9)), (h2, .inl (k1, 50, .inl (fun _ => 0)))] H := hP
  have hD : va_D A [(h0, .inr (7, [.ref h1, .int 19, .ref h2, .int 0, .int (-1), .null, .null, .null, .null, .null, .null, .null, .null, .null, .null])), (h1, .inl (k0, 4000, .inl f9)), (h2, .inl (k1, 50, .inl (fun _ => 0)))] := hD
  refine lv_iinc (v := 0) (lv' := [(2, .int 0), (0, .ref h0), (1, .int x0)]) hx hb dX11_append_42 hl (k := 0) rfl (by decide +kernel) (by decide) rfl (fun ls hl => ?_)
  refine lv_goto (tgt := 3) hx hb dX11_append_45 (by decide) ?_
  refine lv_iload_n hx hb dX11_append_3 rfl (lv_at hl 0 rfl) ?_
  refine lv_if_lt (tgt := 48) hx hb dX11_append_4 (by decide) (fun c => absurd c (by decide +kernel)) (fun _ => ?_)
  refine lv_aload_n hx hb dX11_append_7 rfl (lv_at hl 1 rfl) ?_
  refine va_get (D := (dC, dI)) (ci := 7) (v := .int 19) (C := RX11) (T := TX11) (N := 15) hx hb hw inX11 hown hK hP 0 rfl rfl 1 (by decide) (hw _ mP_138) (fun _ h9 => h9) rfl dX11_append_8 ?_
  refine lv_aload_n hx hb dX11_append_11 rfl (lv_at hl 1 rfl) ?_
  refine va_get (D := (dC, dI)) (ci := 7) (v := .ref h1) (C := RX11) (T := TX11) (N := 15) hx hb hw inX11 hown hK hP 0 rfl rfl 0 (by decide) (hw _ mP_31) (fun _ h9 => h9) rfl dX11_append_12 ?_
  refine va_alen (v := 4000) hx hb hK hP 1 0 rfl rfl (show Int32.ofNat 4000 = 4000 by decide +kernel) dX11_append_15 ?_
  refine lv_icmp_ge (tgt := 42) hx hb dX11_append_16 (by decide) (fun c => absurd c (by decide +kernel)) (fun _ => ?_)
  refine lv_aload_n hx hb dX11_append_19 rfl (lv_at hl 1 rfl) ?_
  refine va_get (D := (dC, dI)) (ci := 7) (v := .ref h1) (C := RX11) (T := TX11) (N := 15) hx hb hw inX11 hown hK hP 0 rfl rfl 0 (by decide) (hw _ mP_31) (fun _ h9 => h9) rfl dX11_append_20 ?_
  refine lv_aload_n hx hb dX11_append_23 rfl (lv_at hl 1 rfl) ?_
  refine va_get (D := (dC, dI)) (ci := 7) (v := .int 19) (C := RX11) (T := TX11) (N := 15) hx hb hw inX11 hown hK hP 0 rfl rfl 1 (by decide) (hw _ mP_138) (fun _ h9 => h9) rfl dX11_append_24 ?_
  refine lv_iload_n hx hb dX11_append_27 rfl (lv_at hl 2 rfl) ?_
  refine lv_iload_n hx hb dX11_append_28 rfl (lv_at hl 0 rfl) ?_
  refine lv_ishr hx hb dX11_append_29 ?_
  refine lv_topi (fun z10 ez10 => ?_)
  refine lv_i2b hx hb dX11_append_30 rfl ?_
  refine lv_topi (fun z11 ez11 => ?_)
  refine va_bast hx hb hK hP hD hS 1 0 rfl rfl (vin (by decide +kernel)) dX11_append_31 (fun H locs hP hD hS => ?_)
  obtain ⟨f12, hP, hD⟩ : ∃ f12 : Nat → Int32, va_P (dC, dI) vC [(h0, .inr (7, [.ref h1, .int 19, .ref h2, .int 0, .int (-1), .null, .null, .null, .null, .null, .null, .null, .null, .null, .null])), (h1, .inl (k0, 4000, .inl f12)), (h2, .inl (k1, 50, .inl (fun _ => 0)))] H ∧ va_D A [(h0, .inr (7, [.ref h1, .int 19, .ref h2, .int 0, .int (-1), .null, .null, .null, .null, .null, .null, .null, .null, .null, .null])), (h1, .inl (k0, 4000, .inl f12)), (h2, .inl (k1, 50, .inl (fun _ => 0)))] := ⟨_, hP, hD⟩
  refine lv_aload_n hx hb dX11_append_32 rfl (lv_at hl 1 rfl) ?_
  refine lv_dup hx hb dX11_append_33 rfl ?_
  refine va_get (D := (dC, dI)) (ci := 7) (v := .int 19) (C := RX11) (T := TX11) (N := 15) hx hb hw inX11 hown hK hP 0 rfl rfl 1 (by decide) (hw _ mP_138) (fun _ h9 => h9) rfl dX11_append_34 ?_
  refine lv_iconst (v := 1) hx hb dX11_append_37 (by decide) ?_
  refine lv_iadd hx hb dX11_append_38 ?_
  refine lv_nmi (y := 20) (by decide +kernel) ?_
  refine va_put (D := (dC, dI)) (ci := 7) (v := .int 20) (ty := .int) (C := RX11) (T := TX11) (N := 15) hx hb hw inX11 tyX11 tyX11_ok nmX11 hown hK hP hD hS 0 rfl rfl 1 (by decide) (hw _ mP_138) (fun _ h9 => h9) rfl (tyX11_ok 1 (by decide)) rfl rfl (Nat.le_of_ble_eq_true rfl) dX11_append_39 (fun H locs hP hD hS => ?_)
  have hP : va_P (dC, dI) vC [(h0, .inr (7, [.ref h1, .int 20, .ref h2, .int 0, .int (-1), .null, .null, .null, .null, .null, .null, .null, .null, .null, .null])), (h1, .inl (k0, 4000, .inl f12)), (h2, .inl (k1, 50, .inl (fun _ => 0)))] H := hP
  have hD : va_D A [(h0, .inr (7, [.ref h1, .int 20, .ref h2, .int 0, .int (-1), .null, .null, .null, .null, .null, .null, .null, .null, .null, .null])), (h1, .inl (k0, 4000, .inl f12)), (h2, .inl (k1, 50, .inl (fun _ => 0)))] := hD
  refine lv_iinc (v := (-8)) (lv' := [(2, .int (-8)), (0, .ref h0), (1, .int x0)]) hx hb dX11_append_42 hl (k := 0) rfl (by decide +kernel) (by decide) rfl (fun ls hl => ?_)
  refine lv_goto (tgt := 3) hx hb dX11_append_45 (by decide) ?_
  refine lv_iload_n hx hb dX11_append_3 rfl (lv_at hl 0 rfl) ?_
  refine lv_if_lt (tgt := 48) hx hb dX11_append_4 (by decide) (fun _ => ?_) (fun c => absurd (by decide +kernel) c)
  refine W.widen (k := 0) (n := 0) (Nat.le_of_ble_eq_true rfl) (Nat.le_of_ble_eq_true rfl) ?_
  exact W.vret hx hb hr (fun t ht hW => ⟨⟨(), rfl, trivial, f12, by rw [ht]; exact hP, va_K.moved hW.alike hK, hD⟩, hS.F ht⟩) hS.2.2 dX11_append_48
set_option maxHeartbeats 4000000 in
set_option maxRecDepth 100000 in
theorem tX11_feed_n1 (l : Launch) (dC : Nat → ClassId) (dI : Nat → Nat → Nat) (h0 h1 h2 : Nat) (sz : Nat) (k0 k1 : ClassId) (x0 x1 x2 x3 x4 : Int32) : Met l yX11_feed (.code yX11_feed cX11_feed 6 (some .int) :: wP) ({ frames := 1, cells := 0, slots := 0, locals := 22 }) (Pz dC dI [.ref h0, .int x0, .int x1, .int x2, .int x3, .int x4] sz [(h0, .inr (7, [.ref h1, .int 0, .ref h2, .int 0, .int (-1), .null, .null, .null, .null, .null, .null, .null, .null, .null, .null])), (h1, .inl (k0, 4000, .inl (fun _ => 0))), (h2, .inl (k1, 50, .inl (fun _ => 0)))] [(k0, .byte), (k1, .int)]) (va_Qi (fun (r : Int32) (_ : Unit) => r = 20) (fun (_ : Unit) (_ : State) => True) (va_A [(h0, .inr (7, [.ref h1, .int 0, .ref h2, .int 0, .int (-1), .null, .null, .null, .null, .null, .null, .null, .null, .null, .null])), (h1, .inl (k0, 4000, .inl (fun _ => 0))), (h2, .inl (k1, 50, .inl (fun _ => 0)))] sz)) 0 0 (va_A [(h0, .inr (7, [.ref h1, .int 0, .ref h2, .int 0, .int (-1), .null, .null, .null, .null, .null, .null, .null, .null, .null, .null])), (h1, .inl (k0, 4000, .inl (fun _ => 0))), (h2, .inl (k1, 50, .inl (fun _ => 0)))] sz) := by
  refine Met.ofW (cc := cX11_feed) (maxL := 6) (ret := (some .int)) (by decide) rfl ?_
  intro p e s m args below meth c s₁ B hml hv
  obtain ⟨rfl, hsz, hP, hK, hD0⟩ := hv
  have hx := B.exec
  have hb := B.bytes
  have hr := B.returns
  have hts := atoms_spec (ws := .code yX11_feed cX11_feed 6 (some .int) :: wP) B.pre
  have hw : ∀ w ∈ wP, w.before _ s = true := fun w h => hts w (List.mem_cons_of_mem _ h)
  have hown : s.vm.findClass RX11 = some m.cls := findClass_of_methodNamed B.named
  have hlocks := B.notSynchronized
  subst hsz
  have hD := hD0.self (sz := s.heap.size)
  generalize hAe : va_A [(h0, .inr (7, [.ref h1, .int 0, .ref h2, .int 0, .int (-1), .null, .null, .null, .null, .null, .null, .null, .null, .null, .null])), (h1, .inl (k0, 4000, .inl (fun _ => 0))), (h2, .inl (k1, 50, .inl (fun _ => 0)))] s.heap.size = A at hD ⊢
  have hA : ∀ q : Nat, s.heap.size ≤ q → A q := fun q h => by rw [← hAe]; exact Or.inr h
  have hS : va_S A s.heap s.heap [] := va_S.rf
  have hP : va_P (dC, dI) vC [(h0, .inr (7, [.ref h1, .int 0, .ref h2, .int 0, .int (-1), .null, .null, .null, .null, .null, .null, .null, .null, .null, .null])), (h1, .inl (k0, 4000, .inl (fun _ => 0))), (h2, .inl (k1, 50, .inl (fun _ => 0)))] s.heap := hP
  have hl := lv_entry ([.ref h0, .int x0, .int x1, .int x2, .int x3, .int x4]) (n := 6) (Nat.le_of_ble_eq_true rfl)
  rw [lg_entry_eq]
  generalize (lg_sl ([.ref h0, .int x0, .int x1, .int x2, .int x3, .int x4]) ++ List.replicate (6 - (lg_sl ([.ref h0, .int x0, .int x1, .int x2, .int x3, .int x4])).length) Slot.unset).toArray = ls at hl ⊢
  have hl : lv_has ls 6 [(0, .ref h0), (1, .int x0), (2, .int x1), (3, .int x2), (4, .int x3), (5, .int x4)] := hl
  refine lv_aload_n hx hb dX11_feed_0 rfl (lv_at hl 0 rfl) ?_
  refine va_get (D := (dC, dI)) (ci := 7) (v := .int 0) (C := RX11) (T := TX11) (N := 15) hx hb hw inX11 hown hK hP 0 rfl rfl 1 (by decide) (hw _ mP_138) (fun _ h9 => h9) rfl dX11_feed_1 ?_
  refine lv_bipush (v := 20) hx hb dX11_feed_4 (by decide) ?_
  refine lv_iadd hx hb dX11_feed_6 ?_
  refine lv_nmi (y := 20) (by decide +kernel) ?_
  refine lv_sipush (v := 4000) hx hb dX11_feed_7 (by decide) ?_
  refine lv_icmp_le (tgt := 15) hx hb dX11_feed_10 (by decide) (fun _ => ?_) (fun c => absurd (by decide +kernel) c)
  refine lv_aload_n hx hb dX11_feed_15 rfl (lv_at hl 0 rfl) ?_
  refine lv_iload_n hx hb dX11_feed_16 rfl (lv_at hl 1 rfl) ?_
  have hPc := hP.sub (ws' := [(h0, .inr (7, [.ref h1, .int 0, .ref h2, .int 0, .int (-1), .null, .null, .null, .null, .null, .null, .null, .null, .null, .null])), (h1, .inl (k0, 4000, .inl (fun _ => 0))), (h2, .inl (k1, 50, .inl (fun _ => 0)))]) [0, 1, 2] rfl
  have hDc := hD.sub (ws' := [(h0, .inr (7, [.ref h1, .int 0, .ref h2, .int 0, .int (-1), .null, .null, .null, .null, .null, .null, .null, .null, .null, .null])), (h1, .inl (k0, 4000, .inl (fun _ => 0))), (h2, .inl (k1, 50, .inl (fun _ => 0)))]) [0, 1, 2] (by decide) rfl
  have hKc := hK.sub (tys' := [(k0, .byte), (k1, .int)]) [0, 1] rfl
  have hFc := va_free (wc := [(h0, .inr (7, [.ref h1, .int 0, .ref h2, .int 0, .int (-1), .null, .null, .null, .null, .null, .null, .null, .null, .null, .null])), (h1, .inl (k0, 4000, .inl (fun _ => 0))), (h2, .inl (k1, 50, .inl (fun _ => 0)))]) hD hS hA [0, 1, 2] rfl
  refine va_callv (va_runV (As := [.int x0]) (rest := []) ⟨hx, hb, hml, hown, hw⟩ (tX11_append_n1 l dC dI h0 h1 h2 s.heap.size k0 k1 x0) ⟨callB_of 1 hw (gd mP_139) rfl rfl rfl (hw _ mP_26) (hw _ mP_140) hdX11_append ⟨Nat.le_of_ble_eq_true rfl, Nat.le_of_ble_eq_true rfl⟩, (hw _ mP_141), (hw _ mP_142)⟩ ⟨fbz, va_recv hKc hPc (ci := 7) (q0 := 0) rfl rfl, prz hPc hKc hDc⟩ rfl rfl hl.1 rfl (lv_room (Nat.le_of_ble_eq_true rfl)) dX11_feed_17 ⟨Nat.le_of_ble_eq_true rfl, Nat.le_of_ble_eq_true rfl⟩) hS (fun q _ h => hFc q h) hFc (fun u1 t H1 locs ht hvm hpo hB hz1 hk1 hS => ?_)
  obtain ⟨f2, hP1, hK1, hD1⟩ := hB
  rw [ht] at hP1
  have hK1 := va_K.moved hvm.symm hK1
  obtain ⟨hP, hD⟩ := va_join (wr := []) (w1 := [(h0, .inr (7, [.ref h1, .int 4, .ref h2, .int 0, .int (-1), .null, .null, .null, .null, .null, .null, .null, .null, .null, .null])), (h1, .inl (k0, 4000, .inl f2)), (h2, .inl (k1, 50, .inl (fun _ => 0)))]) hP hD [0, 1, 2] [] rfl rfl (by decide) (by decide) hk1 hFc hP1 hD1
  have hK := (hK.sub (tys' := []) [] rfl).app hK1
  generalize H1 = H at hP hS ⊢
  have hP : va_P (dC, dI) vC [(h0, .inr (7, [.ref h1, .int 4, .ref h2, .int 0, .int (-1), .null, .null, .null, .null, .null, .null, .null, .null, .null, .null])), (h1, .inl (k0, 4000, .inl f2)), (h2, .inl (k1, 50, .inl (fun _ => 0)))] H := hP
  have hD : va_D A [(h0, .inr (7, [.ref h1, .int 4, .ref h2, .int 0, .int (-1), .null, .null, .null, .null, .null, .null, .null, .null, .null, .null])), (h1, .inl (k0, 4000, .inl f2)), (h2, .inl (k1, 50, .inl (fun _ => 0)))] := hD
  have hK : va_K (dC, dI) vC [(k0, .byte), (k1, .int)] s := hK
  refine lv_aload_n hx hb dX11_feed_20 rfl (lv_at hl 0 rfl) ?_
  refine lv_iload_n hx hb dX11_feed_21 rfl (lv_at hl 2 rfl) ?_
  have hPc := hP.sub (ws' := [(h0, .inr (7, [.ref h1, .int 4, .ref h2, .int 0, .int (-1), .null, .null, .null, .null, .null, .null, .null, .null, .null, .null])), (h1, .inl (k0, 4000, .inl f2)), (h2, .inl (k1, 50, .inl (fun _ => 0)))]) [0, 1, 2] rfl
  have hDc := hD.sub (ws' := [(h0, .inr (7, [.ref h1, .int 4, .ref h2, .int 0, .int (-1), .null, .null, .null, .null, .null, .null, .null, .null, .null, .null])), (h1, .inl (k0, 4000, .inl f2)), (h2, .inl (k1, 50, .inl (fun _ => 0)))]) [0, 1, 2] (by decide) rfl
  have hKc := hK.sub (tys' := [(k0, .byte), (k1, .int)]) [0, 1] rfl
  have hFc := va_free (wc := [(h0, .inr (7, [.ref h1, .int 4, .ref h2, .int 0, .int (-1), .null, .null, .null, .null, .null, .null, .null, .null, .null, .null])), (h1, .inl (k0, 4000, .inl f2)), (h2, .inl (k1, 50, .inl (fun _ => 0)))]) hD hS hA [0, 1, 2] rfl
  refine va_callv (va_runV (As := [.int x1]) (rest := []) ⟨hx, hb, hml, hown, hw⟩ (tX11_append_n2 l dC dI h0 h1 h2 H.size k0 k1 x1 f2) ⟨callB_of 1 hw (gd mP_139) rfl rfl rfl (hw _ mP_26) (hw _ mP_140) hdX11_append ⟨Nat.le_of_ble_eq_true rfl, Nat.le_of_ble_eq_true rfl⟩, (hw _ mP_141), (hw _ mP_142)⟩ ⟨fbz, va_recv hKc hPc (ci := 7) (q0 := 0) rfl rfl, prz hPc hKc hDc⟩ rfl rfl hl.1 rfl (lv_room (Nat.le_of_ble_eq_true rfl)) dX11_feed_22 ⟨Nat.le_of_ble_eq_true rfl, Nat.le_of_ble_eq_true rfl⟩) hS (fun q _ h => hFc q h) hFc (fun u3 t H1 locs ht hvm hpo hB hz1 hk1 hS => ?_)
  obtain ⟨f4, hP1, hK1, hD1⟩ := hB
  rw [ht] at hP1
  have hK1 := va_K.moved hvm.symm hK1
  obtain ⟨hP, hD⟩ := va_join (wr := []) (w1 := [(h0, .inr (7, [.ref h1, .int 8, .ref h2, .int 0, .int (-1), .null, .null, .null, .null, .null, .null, .null, .null, .null, .null])), (h1, .inl (k0, 4000, .inl f4)), (h2, .inl (k1, 50, .inl (fun _ => 0)))]) hP hD [0, 1, 2] [] rfl rfl (by decide) (by decide) hk1 hFc hP1 hD1
  have hK := (hK.sub (tys' := []) [] rfl).app hK1
  generalize H1 = H at hP hS ⊢
  have hP : va_P (dC, dI) vC [(h0, .inr (7, [.ref h1, .int 8, .ref h2, .int 0, .int (-1), .null, .null, .null, .null, .null, .null, .null, .null, .null, .null])), (h1, .inl (k0, 4000, .inl f4)), (h2, .inl (k1, 50, .inl (fun _ => 0)))] H := hP
  have hD : va_D A [(h0, .inr (7, [.ref h1, .int 8, .ref h2, .int 0, .int (-1), .null, .null, .null, .null, .null, .null, .null, .null, .null, .null])), (h1, .inl (k0, 4000, .inl f4)), (h2, .inl (k1, 50, .inl (fun _ => 0)))] := hD
  have hK : va_K (dC, dI) vC [(k0, .byte), (k1, .int)] s := hK
  refine lv_aload_n hx hb dX11_feed_25 rfl (lv_at hl 0 rfl) ?_
  refine lv_iload_n hx hb dX11_feed_26 rfl (lv_at hl 3 rfl) ?_
  have hPc := hP.sub (ws' := [(h0, .inr (7, [.ref h1, .int 8, .ref h2, .int 0, .int (-1), .null, .null, .null, .null, .null, .null, .null, .null, .null, .null])), (h1, .inl (k0, 4000, .inl f4)), (h2, .inl (k1, 50, .inl (fun _ => 0)))]) [0, 1, 2] rfl
  have hDc := hD.sub (ws' := [(h0, .inr (7, [.ref h1, .int 8, .ref h2, .int 0, .int (-1), .null, .null, .null, .null, .null, .null, .null, .null, .null, .null])), (h1, .inl (k0, 4000, .inl f4)), (h2, .inl (k1, 50, .inl (fun _ => 0)))]) [0, 1, 2] (by decide) rfl
  have hKc := hK.sub (tys' := [(k0, .byte), (k1, .int)]) [0, 1] rfl
  have hFc := va_free (wc := [(h0, .inr (7, [.ref h1, .int 8, .ref h2, .int 0, .int (-1), .null, .null, .null, .null, .null, .null, .null, .null, .null, .null])), (h1, .inl (k0, 4000, .inl f4)), (h2, .inl (k1, 50, .inl (fun _ => 0)))]) hD hS hA [0, 1, 2] rfl
  refine va_callv (va_runV (As := [.int x2]) (rest := []) ⟨hx, hb, hml, hown, hw⟩ (tX11_append_n3 l dC dI h0 h1 h2 H.size k0 k1 x2 f4) ⟨callB_of 1 hw (gd mP_139) rfl rfl rfl (hw _ mP_26) (hw _ mP_140) hdX11_append ⟨Nat.le_of_ble_eq_true rfl, Nat.le_of_ble_eq_true rfl⟩, (hw _ mP_141), (hw _ mP_142)⟩ ⟨fbz, va_recv hKc hPc (ci := 7) (q0 := 0) rfl rfl, prz hPc hKc hDc⟩ rfl rfl hl.1 rfl (lv_room (Nat.le_of_ble_eq_true rfl)) dX11_feed_27 ⟨Nat.le_of_ble_eq_true rfl, Nat.le_of_ble_eq_true rfl⟩) hS (fun q _ h => hFc q h) hFc (fun u5 t H1 locs ht hvm hpo hB hz1 hk1 hS => ?_)
  obtain ⟨f6, hP1, hK1, hD1⟩ := hB
  rw [ht] at hP1
  have hK1 := va_K.moved hvm.symm hK1
  obtain ⟨hP, hD⟩ := va_join (wr := []) (w1 := [(h0, .inr (7, [.ref h1, .int 12, .ref h2, .int 0, .int (-1), .null, .null, .null, .null, .null, .null, .null, .null, .null, .null])), (h1, .inl (k0, 4000, .inl f6)), (h2, .inl (k1, 50, .inl (fun _ => 0)))]) hP hD [0, 1, 2] [] rfl rfl (by decide) (by decide) hk1 hFc hP1 hD1
  have hK := (hK.sub (tys' := []) [] rfl).app hK1
  generalize H1 = H at hP hS ⊢
  have hP : va_P (dC, dI) vC [(h0, .inr (7, [.ref h1, .int 12, .ref h2, .int 0, .int (-1), .null, .null, .null, .null, .null, .null, .null, .null, .null, .null])), (h1, .inl (k0, 4000, .inl f6)), (h2, .inl (k1, 50, .inl (fun _ => 0)))] H := hP
  have hD : va_D A [(h0, .inr (7, [.ref h1, .int 12, .ref h2, .int 0, .int (-1), .null, .null, .null, .null, .null, .null, .null, .null, .null, .null])), (h1, .inl (k0, 4000, .inl f6)), (h2, .inl (k1, 50, .inl (fun _ => 0)))] := hD
  have hK : va_K (dC, dI) vC [(k0, .byte), (k1, .int)] s := hK
  refine lv_aload_n hx hb dX11_feed_30 rfl (lv_at hl 0 rfl) ?_
  refine lv_iload hx hb dX11_feed_31 (lv_at hl 4 rfl) ?_
  have hPc := hP.sub (ws' := [(h0, .inr (7, [.ref h1, .int 12, .ref h2, .int 0, .int (-1), .null, .null, .null, .null, .null, .null, .null, .null, .null, .null])), (h1, .inl (k0, 4000, .inl f6)), (h2, .inl (k1, 50, .inl (fun _ => 0)))]) [0, 1, 2] rfl
  have hDc := hD.sub (ws' := [(h0, .inr (7, [.ref h1, .int 12, .ref h2, .int 0, .int (-1), .null, .null, .null, .null, .null, .null, .null, .null, .null, .null])), (h1, .inl (k0, 4000, .inl f6)), (h2, .inl (k1, 50, .inl (fun _ => 0)))]) [0, 1, 2] (by decide) rfl
  have hKc := hK.sub (tys' := [(k0, .byte), (k1, .int)]) [0, 1] rfl
  have hFc := va_free (wc := [(h0, .inr (7, [.ref h1, .int 12, .ref h2, .int 0, .int (-1), .null, .null, .null, .null, .null, .null, .null, .null, .null, .null])), (h1, .inl (k0, 4000, .inl f6)), (h2, .inl (k1, 50, .inl (fun _ => 0)))]) hD hS hA [0, 1, 2] rfl
  refine va_callv (va_runV (As := [.int x3]) (rest := []) ⟨hx, hb, hml, hown, hw⟩ (tX11_append_n4 l dC dI h0 h1 h2 H.size k0 k1 x3 f6) ⟨callB_of 1 hw (gd mP_139) rfl rfl rfl (hw _ mP_26) (hw _ mP_140) hdX11_append ⟨Nat.le_of_ble_eq_true rfl, Nat.le_of_ble_eq_true rfl⟩, (hw _ mP_141), (hw _ mP_142)⟩ ⟨fbz, va_recv hKc hPc (ci := 7) (q0 := 0) rfl rfl, prz hPc hKc hDc⟩ rfl rfl hl.1 rfl (lv_room (Nat.le_of_ble_eq_true rfl)) dX11_feed_33 ⟨Nat.le_of_ble_eq_true rfl, Nat.le_of_ble_eq_true rfl⟩) hS (fun q _ h => hFc q h) hFc (fun u7 t H1 locs ht hvm hpo hB hz1 hk1 hS => ?_)
  obtain ⟨f8, hP1, hK1, hD1⟩ := hB
  rw [ht] at hP1
  have hK1 := va_K.moved hvm.symm hK1
  obtain ⟨hP, hD⟩ := va_join (wr := []) (w1 := [(h0, .inr (7, [.ref h1, .int 16, .ref h2, .int 0, .int (-1), .null, .null, .null, .null, .null, .null, .null, .null, .null, .null])), (h1, .inl (k0, 4000, .inl f8)), (h2, .inl (k1, 50, .inl (fun _ => 0)))]) hP hD [0, 1, 2] [] rfl rfl (by decide) (by decide) hk1 hFc hP1 hD1
  have hK := (hK.sub (tys' := []) [] rfl).app hK1
  generalize H1 = H at hP hS ⊢
  have hP : va_P (dC, dI) vC [(h0, .inr (7, [.ref h1, .int 16, .ref h2, .int 0, .int (-1), .null, .null, .null, .null, .null, .null, .null, .null, .null, .null])), (h1, .inl (k0, 4000, .inl f8)), (h2, .inl (k1, 50, .inl (fun _ => 0)))] H := hP
  have hD : va_D A [(h0, .inr (7, [.ref h1, .int 16, .ref h2, .int 0, .int (-1), .null, .null, .null, .null, .null, .null, .null, .null, .null, .null])), (h1, .inl (k0, 4000, .inl f8)), (h2, .inl (k1, 50, .inl (fun _ => 0)))] := hD
  have hK : va_K (dC, dI) vC [(k0, .byte), (k1, .int)] s := hK
  refine lv_aload_n hx hb dX11_feed_36 rfl (lv_at hl 0 rfl) ?_
  refine lv_iload hx hb dX11_feed_37 (lv_at hl 5 rfl) ?_
  have hPc := hP.sub (ws' := [(h0, .inr (7, [.ref h1, .int 16, .ref h2, .int 0, .int (-1), .null, .null, .null, .null, .null, .null, .null, .null, .null, .null])), (h1, .inl (k0, 4000, .inl f8)), (h2, .inl (k1, 50, .inl (fun _ => 0)))]) [0, 1, 2] rfl
  have hDc := hD.sub (ws' := [(h0, .inr (7, [.ref h1, .int 16, .ref h2, .int 0, .int (-1), .null, .null, .null, .null, .null, .null, .null, .null, .null, .null])), (h1, .inl (k0, 4000, .inl f8)), (h2, .inl (k1, 50, .inl (fun _ => 0)))]) [0, 1, 2] (by decide) rfl
  have hKc := hK.sub (tys' := [(k0, .byte), (k1, .int)]) [0, 1] rfl
  have hFc := va_free (wc := [(h0, .inr (7, [.ref h1, .int 16, .ref h2, .int 0, .int (-1), .null, .null, .null, .null, .null, .null, .null, .null, .null, .null])), (h1, .inl (k0, 4000, .inl f8)), (h2, .inl (k1, 50, .inl (fun _ => 0)))]) hD hS hA [0, 1, 2] rfl
  refine va_callv (va_runV (As := [.int x4]) (rest := []) ⟨hx, hb, hml, hown, hw⟩ (tX11_append_n5 l dC dI h0 h1 h2 H.size k0 k1 x4 f8) ⟨callB_of 1 hw (gd mP_139) rfl rfl rfl (hw _ mP_26) (hw _ mP_140) hdX11_append ⟨Nat.le_of_ble_eq_true rfl, Nat.le_of_ble_eq_true rfl⟩, (hw _ mP_141), (hw _ mP_142)⟩ ⟨fbz, va_recv hKc hPc (ci := 7) (q0 := 0) rfl rfl, prz hPc hKc hDc⟩ rfl rfl hl.1 rfl (lv_room (Nat.le_of_ble_eq_true rfl)) dX11_feed_39 ⟨Nat.le_of_ble_eq_true rfl, Nat.le_of_ble_eq_true rfl⟩) hS (fun q _ h => hFc q h) hFc (fun u9 t H1 locs ht hvm hpo hB hz1 hk1 hS => ?_)
  obtain ⟨f10, hP1, hK1, hD1⟩ := hB
  rw [ht] at hP1
  have hK1 := va_K.moved hvm.symm hK1
  obtain ⟨hP, hD⟩ := va_join (wr := []) (w1 := [(h0, .inr (7, [.ref h1, .int 20, .ref h2, .int 0, .int (-1), .null, .null, .null, .null, .null, .null, .null, .null, .null, .null])), (h1, .inl (k0, 4000, .inl f10)), (h2, .inl (k1, 50, .inl (fun _ => 0)))]) hP hD [0, 1, 2] [] rfl rfl (by decide) (by decide) hk1 hFc hP1 hD1
  have hK := (hK.sub (tys' := []) [] rfl).app hK1
  generalize H1 = H at hP hS ⊢
  have hP : va_P (dC, dI) vC [(h0, .inr (7, [.ref h1, .int 20, .ref h2, .int 0, .int (-1), .null, .null, .null, .null, .null, .null, .null, .null, .null, .null])), (h1, .inl (k0, 4000, .inl f10)), (h2, .inl (k1, 50, .inl (fun _ => 0)))] H := hP
  have hD : va_D A [(h0, .inr (7, [.ref h1, .int 20, .ref h2, .int 0, .int (-1), .null, .null, .null, .null, .null, .null, .null, .null, .null, .null])), (h1, .inl (k0, 4000, .inl f10)), (h2, .inl (k1, 50, .inl (fun _ => 0)))] := hD
  have hK : va_K (dC, dI) vC [(k0, .byte), (k1, .int)] s := hK
  refine lv_aload_n hx hb dX11_feed_42 rfl (lv_at hl 0 rfl) ?_
  refine va_get (D := (dC, dI)) (ci := 7) (v := .int 20) (C := RX11) (T := TX11) (N := 15) hx hb hw inX11 hown hK hP 0 rfl rfl 1 (by decide) (hw _ mP_138) (fun _ h9 => h9) rfl dX11_feed_43 ?_
  refine W.widen (k := 0) (n := 0) (Nat.le_of_ble_eq_true rfl) (Nat.le_of_ble_eq_true rfl) ?_
  exact W.iret (v := 20) hx hb hr (fun t ht hW => ⟨⟨20, (), rfl, rfl, trivial⟩, hS.F ht⟩) hS.2.2 dX11_feed_46
set_option maxHeartbeats 4000000 in
set_option maxRecDepth 100000 in
theorem tX12_put_n1 (l : Launch) (dC : Nat → ClassId) (dI : Nat → Nat → Nat) (h0 h1 h2 h3 h4 h5 h6 h7 h8 h9 h10 h11 h12 h13 j0 : Nat) (sz : Nat) (k0 k1 k2 k3 k4 k5 k6 k7 k8 k9 k10 k11 k12 : ClassId) (x0 : Int32) (fs : List Value) (hF : MF fs [.ref j0, .ref h1, .int 0, .int 0, .ref h2, .ref h3, .ref h4, .int 0, .int 0, .int 0, .int (-1), .int (-1), .ref h5, .ref h6, .ref h7, .ref h8, .ref h9, .ref h10, .ref h11, .int 0, .int 0, .int 0, .int 0, .ref h13, .ref h12, .int 0]) : Met l yX12_put (.code yX12_put cX12_put 3 none :: wP) ({ frames := 0, cells := 0, slots := 0, locals := 0 }) (Pz dC dI [.ref h0, .int x0] sz [(h0, .inr (8, fs)), (h1, .inl (k0, 4000, .inl (fun _ => 0))), (h2, .inl (k1, 1203, .inl (fun _ => 0))), (h3, .inl (k2, 1203, .inl (fun _ => 0))), (h4, .inl (k3, 1203, .inl (fun _ => 0))), (h5, .inl (k4, 2, .inl (fun _ => 0))), (h6, .inl (k5, 2, .inl (fun _ => 0))), (h7, .inl (k6, 2, .inl (fun _ => 0))), (h8, .inl (k7, 2, .inl (fun _ => 0))), (h9, .inl (k8, 2, .inl (fun _ => 0))), (h10, .inl (k9, 2, .inl (fun _ => 0))), (h11, .inl (k10, 2, .inl (fun _ => 0))), (h12, .inl (k11, 50, .inl (fun _ => 0))), (h13, .inl (k12, 2, .inl (upd (fun _ => 0) (0 : Int32).toNatClampNeg (vp_nar .boolean 0))))] [(k0, .byte), (k1, .int), (k2, .int), (k3, .int), (k4, .int), (k5, .int), (k6, .int), (k7, .int), (k8, .int), (k9, .int), (k10, .int), (k11, .int), (k12, .boolean)]) (va_Qv (fun (_ : Unit) => True) (fun (_ : Unit) (t : State) => ∃ (f15 : Nat → Int32) (fs16 : List Value), MF fs16 [.ref j0, .ref h1, .int 4, .int 0, .ref h2, .ref h3, .ref h4, .int 0, .int 0, .int 0, .int (-1), .int (-1), .ref h5, .ref h6, .ref h7, .ref h8, .ref h9, .ref h10, .ref h11, .int 0, .int 0, .int 0, .int 0, .ref h13, .ref h12, .int 0] ∧ va_P (dC, dI) vC [(h0, .inr (8, fs16)), (h1, .inl (k0, 4000, .inl f15)), (h2, .inl (k1, 1203, .inl (fun _ => 0))), (h3, .inl (k2, 1203, .inl (fun _ => 0))), (h4, .inl (k3, 1203, .inl (fun _ => 0))), (h5, .inl (k4, 2, .inl (fun _ => 0))), (h6, .inl (k5, 2, .inl (fun _ => 0))), (h7, .inl (k6, 2, .inl (fun _ => 0))), (h8, .inl (k7, 2, .inl (fun _ => 0))), (h9, .inl (k8, 2, .inl (fun _ => 0))), (h10, .inl (k9, 2, .inl (fun _ => 0))), (h11, .inl (k10, 2, .inl (fun _ => 0))), (h12, .inl (k11, 50, .inl (fun _ => 0))), (h13, .inl (k12, 2, .inl (upd (fun _ => 0) (0 : Int32).toNatClampNeg (vp_nar .boolean 0))))] t.heap ∧ va_K (dC, dI) vC [(k0, .byte), (k1, .int), (k2, .int), (k3, .int), (k4, .int), (k5, .int), (k6, .int), (k7, .int), (k8, .int), (k9, .int), (k10, .int), (k11, .int), (k12, .boolean)] t ∧ va_D (va_A [(h0, .inr (8, fs)), (h1, .inl (k0, 4000, .inl (fun _ => 0))), (h2, .inl (k1, 1203, .inl (fun _ => 0))), (h3, .inl (k2, 1203, .inl (fun _ => 0))), (h4, .inl (k3, 1203, .inl (fun _ => 0))), (h5, .inl (k4, 2, .inl (fun _ => 0))), (h6, .inl (k5, 2, .inl (fun _ => 0))), (h7, .inl (k6, 2, .inl (fun _ => 0))), (h8, .inl (k7, 2, .inl (fun _ => 0))), (h9, .inl (k8, 2, .inl (fun _ => 0))), (h10, .inl (k9, 2, .inl (fun _ => 0))), (h11, .inl (k10, 2, .inl (fun _ => 0))), (h12, .inl (k11, 50, .inl (fun _ => 0))), (h13, .inl (k12, 2, .inl (upd (fun _ => 0) (0 : Int32).toNatClampNeg (vp_nar .boolean 0))))] sz) [(h0, .inr (8, fs16)), (h1, .inl (k0, 4000, .inl f15)), (h2, .inl (k1, 1203, .inl (fun _ => 0))), (h3, .inl (k2, 1203, .inl (fun _ => 0))), (h4, .inl (k3, 1203, .inl (fun _ => 0))), (h5, .inl (k4, 2, .inl (fun _ => 0))), (h6, .inl (k5, 2, .inl (fun _ => 0))), (h7, .inl (k6, 2, .inl (fun _ => 0))), (h8, .inl (k7, 2, .inl (fun _ => 0))), (h9, .inl (k8, 2, .inl (fun _ => 0))), (h10, .inl (k9, 2, .inl (fun _ => 0))), (h11, .inl (k10, 2, .inl (fun _ => 0))), (h12, .inl (k11, 50, .inl (fun _ => 0))), (h13, .inl (k12, 2, .inl (upd (fun _ => 0) (0 : Int32).toNatClampNeg (vp_nar .boolean 0))))]) (va_A [(h0, .inr (8, fs)), (h1, .inl (k0, 4000, .inl (fun _ => 0))), (h2, .inl (k1, 1203, .inl (fun _ => 0))), (h3, .inl (k2, 1203, .inl (fun _ => 0))), (h4, .inl (k3, 1203, .inl (fun _ => 0))), (h5, .inl (k4, 2, .inl (fun _ => 0))), (h6, .inl (k5, 2, .inl (fun _ => 0))), (h7, .inl (k6, 2, .inl (fun _ => 0))), (h8, .inl (k7, 2, .inl (fun _ => 0))), (h9, .inl (k8, 2, .inl (fun _ => 0))), (h10, .inl (k9, 2, .inl (fun _ => 0))), (h11, .inl (k10, 2, .inl (fun _ => 0))), (h12, .inl (k11, 50, .inl (fun _ => 0))), (h13, .inl (k12, 2, .inl (upd (fun _ => 0) (0 : Int32).toNatClampNeg (vp_nar .boolean 0))))] sz)) 0 0 (va_A [(h0, .inr (8, fs)), (h1, .inl (k0, 4000, .inl (fun _ => 0))), (h2, .inl (k1, 1203, .inl (fun _ => 0))), (h3, .inl (k2, 1203, .inl (fun _ => 0))), (h4, .inl (k3, 1203, .inl (fun _ => 0))), (h5, .inl (k4, 2, .inl (fun _ => 0))), (h6, .inl (k5, 2, .inl (fun _ => 0))), (h7, .inl (k6, 2, .inl (fun _ => 0))), (h8, .inl (k7, 2, .inl (fun _ => 0))), (h9, .inl (k8, 2, .inl (fun _ => 0))), (h10, .inl (k9, 2, .inl (fun _ => 0))), (h11, .inl (k10, 2, .inl (fun _ => 0))), (h12, .inl (k11, 50, .inl (fun _ => 0))), (h13, .inl (k12, 2, .inl (upd (fun _ => 0) (0 : Int32).toNatClampNeg (vp_nar .boolean 0))))] sz) := by
  refine Met.ofW (cc := cX12_put) (maxL := 3) (ret := none) (by decide) rfl ?_
  intro p e s m args below meth c s₁ B hml hv
  obtain ⟨rfl, hsz, hP, hK, hD0⟩ := hv
  have hx := B.exec
  have hb := B.bytes
  have hr := B.returns
  have hts := atoms_spec (ws := .code yX12_put cX12_put 3 none :: wP) B.pre
  have hw : ∀ w ∈ wP, w.before _ s = true := fun w h => hts w (List.mem_cons_of_mem _ h)
  have hown : s.vm.findClass RX12 = some m.cls := findClass_of_methodNamed B.named
  have hlocks := B.notSynchronized
  subst hsz
  have hD := hD0.self (sz := s.heap.size)
  generalize hAe : va_A [(h0, .inr (8, fs)), (h1, .inl (k0, 4000, .inl (fun _ => 0))), (h2, .inl (k1, 1203, .inl (fun _ => 0))), (h3, .inl (k2, 1203, .inl (fun _ => 0))), (h4, .inl (k3, 1203, .inl (fun _ => 0))), (h5, .inl (k4, 2, .inl (fun _ => 0))), (h6, .inl (k5, 2, .inl (fun _ => 0))), (h7, .inl (k6, 2, .inl (fun _ => 0))), (h8, .inl (k7, 2, .inl (fun _ => 0))), (h9, .inl (k8, 2, .inl (fun _ => 0))), (h10, .inl (k9, 2, .inl (fun _ => 0))), (h11, .inl (k10, 2, .inl (fun _ => 0))), (h12, .inl (k11, 50, .inl (fun _ => 0))), (h13, .inl (k12, 2, .inl (upd (fun _ => 0) (0 : Int32).toNatClampNeg (vp_nar .boolean 0))))] s.heap.size = A at hD ⊢
  have hA : ∀ q : Nat, s.heap.size ≤ q → A q := fun q h => by rw [← hAe]; exact Or.inr h
  have hS : va_S A s.heap s.heap [] := va_S.rf
  have hP : va_P (dC, dI) vC [(h0, .inr (8, fs)), (h1, .inl (k0, 4000, .inl (fun _ => 0))), (h2, .inl (k1, 1203, .inl (fun _ => 0))), (h3, .inl (k2, 1203, .inl (fun _ => 0))), (h4, .inl (k3, 1203, .inl (fun _ => 0))), (h5, .inl (k4, 2, .inl (fun _ => 0))), (h6, .inl (k5, 2, .inl (fun _ => 0))), (h7, .inl (k6, 2, .inl (fun _ => 0))), (h8, .inl (k7, 2, .inl (fun _ => 0))), (h9, .inl (k8, 2, .inl (fun _ => 0))), (h10, .inl (k9, 2, .inl (fun _ => 0))), (h11, .inl (k10, 2, .inl (fun _ => 0))), (h12, .inl (k11, 50, .inl (fun _ => 0))), (h13, .inl (k12, 2, .inl (upd (fun _ => 0) (0 : Int32).toNatClampNeg (vp_nar .boolean 0))))] s.heap := hP
  have hl := lv_entry ([.ref h0, .int x0]) (n := 3) (Nat.le_of_ble_eq_true rfl)
  rw [lg_entry_eq]
  generalize (lg_sl ([.ref h0, .int x0]) ++ List.replicate (3 - (lg_sl ([.ref h0, .int x0])).length) Slot.unset).toArray = ls at hl ⊢
  have hl : lv_has ls 3 [(0, .ref h0), (1, .int x0)] := hl
  refine lv_bipush (v := 24) hx hb dX12_put_0 (by decide) ?_
  refine lv_istore_n (lv' := [(2, .int 24), (0, .ref h0), (1, .int x0)]) hx hb dX12_put_2 rfl hl (by decide) rfl (fun ls hl => ?_)
  refine lv_iload_n hx hb dX12_put_3 rfl (lv_at hl 0 rfl) ?_
  refine lv_if_lt (tgt := 36) hx hb dX12_put_4 (by decide) (fun c => absurd c (by decide +kernel)) (fun _ => ?_)
  refine lv_aload_n hx hb dX12_put_7 rfl (lv_at hl 1 rfl) ?_
  refine va_get (D := (dC, dI)) (ci := 8) (v := .ref h1) (C := RX12) (T := TX12) (N := 105) hx hb hw inX12 hown hK hP 0 rfl rfl 2 (by decide) (hw _ mP_43) (fun _ h9 => h9) (hF.get 1 rfl rfl) dX12_put_8 ?_
  refine lv_aload_n hx hb dX12_put_11 rfl (lv_at hl 1 rfl) ?_
  refine va_get (D := (dC, dI)) (ci := 8) (v := .int 0) (C := RX12) (T := TX12) (N := 105) hx hb hw inX12 hown hK hP 0 rfl rfl 3 (by decide) (hw _ mP_147) (fun _ h9 => h9) (hF.get 2 rfl rfl) dX12_put_12 ?_
  refine lv_iload_n hx hb dX12_put_15 rfl (lv_at hl 2 rfl) ?_
  refine lv_iload_n hx hb dX12_put_16 rfl (lv_at hl 0 rfl) ?_
  refine lv_ishr hx hb dX12_put_17 ?_
  refine lv_topi (fun z1 ez1 => ?_)
  refine lv_i2b hx hb dX12_put_18 rfl ?_
  refine lv_topi (fun z2 ez2 => ?_)
  refine va_bast hx hb hK hP hD hS 1 0 rfl rfl (vin (by decide +kernel)) dX12_put_19 (fun H locs hP hD hS => ?_)
  obtain ⟨f3, hP, hD⟩ : ∃ f3 : Nat → Int32, va_P (dC, dI) vC [(h0, .inr (8, fs)), (h1, .inl (k0, 4000, .inl f3)), (h2, .inl (k1, 1203, .inl (fun _ => 0))), (h3, .inl (k2, 1203, .inl (fun _ => 0))), (h4, .inl (k3, 1203, .inl (fun _ => 0))), (h5, .inl (k4, 2, .inl (fun _ => 0))), (h6, .inl (k5, 2, .inl (fun _ => 0))), (h7, .inl (k6, 2, .inl (fun _ => 0))), (h8, .inl (k7, 2, .inl (fun _ => 0))), (h9, .inl (k8, 2, .inl (fun _ => 0))), (h10, .inl (k9, 2, .inl (fun _ => 0))), (h11, .inl (k10, 2, .inl (fun _ => 0))), (h12, .inl (k11, 50, .inl (fun _ => 0))), (h13, .inl (k12, 2, .inl (upd (fun _ => 0) (0 : Int32).toNatClampNeg (vp_nar .boolean 0))))] H ∧ va_D A [(h0, .inr (8, fs)), (h1, .inl (k0, 4000, .inl f3)), (h2, .inl (k1, 1203, .inl (fun _ => 0))), (h3, .inl (k2, 1203, .inl (fun _ => 0))), (h4, .inl (k3, 1203, .inl (fun _ => 0))), (h5, .inl (k4, 2, .inl (fun _ => 0))), (h6, .inl (k5, 2, .inl (fun _ => 0))), (h7, .inl (k6, 2, .inl (fun _ => 0))), (h8, .inl (k7, 2, .inl (fun _ => 0))), (h9, .inl (k8, 2, .inl (fun _ => 0))), (h10, .inl (k9, 2, .inl (fun _ => 0))), (h11, .inl (k10, 2, .inl (fun _ => 0))), (h12, .inl (k11, 50, .inl (fun _ => 0))), (h13, .inl (k12, 2, .inl (upd (fun _ => 0) (0 : Int32).toNatClampNeg (vp_nar .boolean 0))))] := ⟨_, hP, hD⟩
  refine lv_aload_n hx hb dX12_put_20 rfl (lv_at hl 1 rfl) ?_
  refine lv_dup hx hb dX12_put_21 rfl ?_
  refine va_get (D := (dC, dI)) (ci := 8) (v := .int 0) (C := RX12) (T := TX12) (N := 105) hx hb hw inX12 hown hK hP 0 rfl rfl 3 (by decide) (hw _ mP_147) (fun _ h9 => h9) (hF.get 2 rfl rfl) dX12_put_22 ?_
  refine lv_iconst (v := 1) hx hb dX12_put_25 (by decide) ?_
  refine lv_iadd hx hb dX12_put_26 ?_
  refine lv_nmi (y := 1) (by decide +kernel) ?_
  refine va_put (D := (dC, dI)) (ci := 8) (v := .int 1) (ty := .int) (C := RX12) (T := TX12) (N := 105) hx hb hw inX12 tyX12 tyX12_ok nmX12 hown hK hP hD hS 0 rfl rfl 3 (by decide) (hw _ mP_147) (fun _ h9 => h9) rfl (tyX12_ok 3 (by decide)) rfl rfl (hF.len (Nat.le_of_ble_eq_true rfl)) dX12_put_27 (fun H locs hP hD hS => ?_)
  obtain ⟨fs4, hF, hP, hD⟩ : ∃ fs4 : List Value, MF fs4 [.ref j0, .ref h1, .int 1, .int 0, .ref h2, .ref h3, .ref h4, .int 0, .int 0, .int 0, .int (-1), .int (-1), .ref h5, .ref h6, .ref h7, .ref h8, .ref h9, .ref h10, .ref h11, .int 0, .int 0, .int 0, .int 0, .ref h13, .ref h12, .int 0] ∧ va_P (dC, dI) vC [(h0, .inr (8, fs4)), (h1, .inl (k0, 4000, .inl f3)), (h2, .inl (k1, 1203, .inl (fun _ => 0))), (h3, .inl (k2, 1203, .inl (fun _ => 0))), (h4, .inl (k3, 1203, .inl (fun _ => 0))), (h5, .inl (k4, 2, .inl (fun _ => 0))), (h6, .inl (k5, 2, .inl (fun _ => 0))), (h7, .inl (k6, 2, .inl (fun _ => 0))), (h8, .inl (k7, 2, .inl (fun _ => 0))), (h9, .inl (k8, 2, .inl (fun _ => 0))), (h10, .inl (k9, 2, .inl (fun _ => 0))), (h11, .inl (k10, 2, .inl (fun _ => 0))), (h12, .inl (k11, 50, .inl (fun _ => 0))), (h13, .inl (k12, 2, .inl (upd (fun _ => 0) (0 : Int32).toNatClampNeg (vp_nar .boolean 0))))] H ∧ va_D A [(h0, .inr (8, fs4)), (h1, .inl (k0, 4000, .inl f3)), (h2, .inl (k1, 1203, .inl (fun _ => 0))), (h3, .inl (k2, 1203, .inl (fun _ => 0))), (h4, .inl (k3, 1203, .inl (fun _ => 0))), (h5, .inl (k4, 2, .inl (fun _ => 0))), (h6, .inl (k5, 2, .inl (fun _ => 0))), (h7, .inl (k6, 2, .inl (fun _ => 0))), (h8, .inl (k7, 2, .inl (fun _ => 0))), (h9, .inl (k8, 2, .inl (fun _ => 0))), (h10, .inl (k9, 2, .inl (fun _ => 0))), (h11, .inl (k10, 2, .inl (fun _ => 0))), (h12, .inl (k11, 50, .inl (fun _ => 0))), (h13, .inl (k12, 2, .inl (upd (fun _ => 0) (0 : Int32).toNatClampNeg (vp_nar .boolean 0))))] := ⟨_, hF.put 2 rfl, hP, hD⟩
  refine lv_iinc (v := 16) (lv' := [(2, .int 16), (0, .ref h0), (1, .int x0)]) hx hb dX12_put_30 hl (k := 0) rfl (by decide +kernel) (by decide) rfl (fun ls hl => ?_)
  refine lv_goto (tgt := 3) hx hb dX12_put_33 (by decide) ?_
  refine lv_iload_n hx hb dX12_put_3 rfl (lv_at hl 0 rfl) ?_
  refine lv_if_lt (tgt := 36) hx hb dX12_put_4 (by decide) (fun c => absurd c (by decide +kernel)) (fun _ => ?_)
  refine lv_aload_n hx hb dX12_put_7 rfl (lv_at hl 1 rfl) ?_
  refine va_get (D := (dC, dI)) (ci := 8) (v := .ref h1) (C := RX12) (T := TX12) (N := 105) hx hb hw inX12 hown hK hP 0 rfl rfl 2 (by decide) (hw _ mP_43) (fun _ h9 => h9) (hF.get 1 rfl rfl) dX12_put_8 ?_
  refine lv_aload_n hx hb dX12_put_11 rfl (lv_at hl 1 rfl) ?_
  refine va_get (D := (dC, dI)) (ci := 8) (v := .int 1) (C := RX12) (T := TX12) (N := 105) hx hb hw inX12 hown hK hP 0 rfl rfl 3 (by decide) (hw _ mP_147) (fun _ h9 => h9) (hF.get 2 rfl rfl) dX12_put_12 ?_
  refine lv_iload_n hx hb dX12_put_15 rfl (lv_at hl 2 rfl) ?_
  refine lv_iload_n hx hb dX12_put_16 rfl (lv_at hl 0 rfl) ?_
  refine lv_ishr hx hb dX12_put_17 ?_
  refine lv_topi (fun z5 ez5 => ?_)
  refine lv_i2b hx hb dX12_put_18 rfl ?_
  refine lv_topi (fun z6 ez6 => ?_)
  refine va_bast hx hb hK hP hD hS 1 0 rfl rfl (vin (by decide +kernel)) dX12_put_19 (fun H locs hP hD hS => ?_)
  obtain ⟨f7, hP, hD⟩ : ∃ f7 : Nat → Int32, va_P (dC, dI) vC [(h0, .inr (8, fs4)), (h1, .inl (k0, 4000, .inl f7)), (h2, .inl (k1, 1203, .inl (fun _ => 0))), (h3, .inl (k2, 1203, .inl (fun _ => 0))), (h4, .inl (k3, 1203, .inl (fun _ => 0))), (h5, .inl (k4, 2, .inl (fun _ => 0))), (h6, .inl (k5, 2, .inl (fun _ => 0))), (h7, .inl (k6, 2, .inl (fun _ => 0))), (h8, .inl (k7, 2, .inl (fun _ => 0))), (h9, .inl (k8, 2, .inl (fun _ => 0))), (h10, .inl (k9, 2, .inl (fun _ => 0))), (h11, .inl (k10, 2, .inl (fun _ => 0))), (h12, .inl (k11, 50, .inl (fun _ => 0))), (h13, .inl (k12, 2, .inl (upd (fun _ => 0) (0 : Int32).toNatClampNeg (vp_nar .boolean 0))))] H ∧ va_D A [(h0, .inr (8, fs4)), (h1, .inl (k0, 4000, .inl f7)), (h2, .inl (k1, 1203, .inl (fun _ => 0))), (h3, .inl (k2, 1203, .inl (fun _ => 0))), (h4, .inl (k3, 1203, .inl (fun _ => 0))), (h5, .inl (k4, 2, .inl (fun _ => 0))), (h6, .inl (k5, 2, .inl (fun _ => 0))), (h7, .inl (k6, 2, .inl (fun _ => 0))), (h8, .inl (k7, 2, .inl (fun _ => 0))), (h9, .inl (k8, 2, .inl (fun _ => 0))), (h10, .inl (k9, 2, .inl (fun _ => 0))), (h11, .inl (k10, 2, .inl (fun _ => 0))), (h12, .inl (k11, 50, .inl (fun _ => 0))), (h13, .inl (k12, 2, .inl (upd (fun _ => 0) (0 : Int32).toNatClampNeg (vp_nar .boolean 0))))] := ⟨_, hP, hD⟩
  refine lv_aload_n hx hb dX12_put_20 rfl (lv_at hl 1 rfl) ?_
  refine lv_dup hx hb dX12_put_21 rfl ?_
  refine va_get (D := (dC, dI)) (ci := 8) (v := .int 1) (C := RX12) (T := TX12) (N := 105) hx hb hw inX12 hown hK hP 0 rfl rfl 3 (by decide) (hw _ mP_147) (fun _ h9 => h9) (hF.get 2 rfl rfl) dX12_put_22 ?_
  refine lv_iconst (v := 1) hx hb dX12_put_25 (by decide) ?_
  refine lv_iadd hx hb dX12_put_26 ?_
  refine lv_nmi (y := 2) (by decide +kernel) ?_
  refine va_put (D := (dC, dI)) (ci := 8) (v := .int 2) (ty := .int) (C := RX12) (T := TX12) (N := 105) hx hb hw inX12 tyX12 tyX12_ok nmX12 hown hK hP hD hS 0 rfl rfl 3 (by decide) (hw _ mP_147) (fun _ h9 => h9) rfl (tyX12_ok 3 (by decide)) rfl rfl (hF.len (Nat.le_of_ble_eq_true rfl)) dX12_put_27 (fun H locs hP hD hS => ?_)
  obtain ⟨fs8, hF, hP, hD⟩ : ∃ fs8 : List Value, MF fs8 [.ref j0, .ref h1, .int 2, .int 0, .ref h2, .ref h3, .ref h4, .int 0, .int 0, .int 0, .int (-1), .int (-1), .ref h5, .ref h6, .ref h7, .ref h8, .ref h9, .ref h10, .ref h11, .int 0, .int 0, .int 0, .int 0, .ref h13, .ref h12, .int 0] ∧ va_P (dC, dI) vC [(h0, .inr (8, fs8)), (h1, .inl (k0, 4000, .inl f7)), (h2, .inl (k1, 1203, .inl (fun _ => 0))), (h3, .inl (k2, 1203, .inl (fun _ => 0))), (h4, .inl (k3, 1203, .inl (fun _ => 0))), (h5, .inl (k4, 2, .inl (fun _ => 0))), (h6, .inl (k5, 2, .inl (fun _ => 0))), (h7, .inl (k6, 2, .inl (fun _ => 0))), (h8, .inl (k7, 2, .inl (fun _ => 0))), (h9, .inl (k8, 2, .inl (fun _ => 0))), (h10, .inl (k9, 2, .inl (fun _ => 0))), (h11, .inl (k10, 2, .inl (fun _ => 0))), (h12, .inl (k11, 50, .inl (fun _ => 0))), (h13, .inl (k12, 2, .inl (upd (fun _ => 0) (0 : Int32).toNatClampNeg (vp_nar .boolean 0))))] H ∧ va_D A [(h0, .inr (8, fs8)), (h1, .inl (k0, 4000, .inl f7)), (h2, .inl (k1, 1203, .inl (fun _ => 0))), (h3, .inl (k2, 1203, .inl (fun _ => 0))), (h4, .inl (k3, 1203, .inl (fun _ => 0))), (h5, .inl (k4, 2, .inl (fun _ => 0))), (h6, .inl (k5, 2, .inl (fun _ => 0))), (h7, .inl (k6, 2, .inl (fun _ => 0))), (h8, .inl (k7, 2, .inl (fun _ => 0))), (h9, .inl (k8, 2, .inl (fun _ => 0))), (h10, .inl (k9, 2, .inl (fun _ => 0))), (h11, .inl (k10, 2, .inl (fun _ => 0))), (h12, .inl (k11, 50, .inl (fun _ => 0))), (h13, .inl (k12, 2, .inl (upd (fun _ => 0) (0 : Int32).toNatClampNeg (vp_nar .boolean 0))))] := ⟨_, hF.put 2 rfl, hP, hD⟩
  refine lv_iinc (v := 8) (lv' := [(2, .int 8), (0, .ref h0), (1, .int x0)]) hx hb dX12_put_30 hl (k := 0) rfl (by decide +kernel) (by decide) rfl (fun ls hl => ?_)
  refine lv_goto (tgt := 3) hx hb dX12_put_33 (by decide) ?_
  refine lv_iload_n hx hb dX12_put_3 rfl (lv_at hl 0 rfl) ?_
  refine lv_if_lt (tgt := 36) hx hb dX12_put_4 (by decide) (fun c => absurd c (by decide +kernel)) (fun _ => ?_)
  refine lv_aload_n hx hb dX12_put_7 rfl (lv_at hl 1 rfl) ?_
  refine va_get (D := (dC, dI)) (ci := 8) (v := .ref h1) (C := RX12) (T := TX12) (N := 105) hx hb hw inX12 hown hK hP 0 rfl rfl 2 (by decide) (hw _ mP_43) (fun _ h9 => h9) (hF.get 1 rfl rfl) dX12_put_8 ?_
  refine lv_aload_n hx hb dX12_put_11 rfl (lv_at hl 1 rfl) ?_
  refine va_get (D := (dC, dI)) (ci := 8) (v := .int 2) (C := RX12) (T := TX12) (N := 105) hx hb hw inX12 hown hK hP 0 rfl rfl 3 (by decide) (hw _ mP_147) (fun _ h9 => h9) (hF.get 2 rfl rfl) dX12_put_12 ?_
  refine lv_iload_n hx hb dX12_put_15 rfl (lv_at hl 2 rfl) ?_
  refine lv_iload_n hx hb dX12_put_16 rfl (lv_at hl 0 rfl) ?_
  refine lv_ishr hx hb dX12_put_17 ?_
  refine lv_topi (fun z9 ez9 => ?_)
  refine lv_i2b hx hb dX12_put_18 rfl ?_
  refine lv_topi (fun z10 ez10 => ?_)
  refine va_bast hx hb hK hP hD hS 1 0 rfl rfl (vin (by decide +kernel)) dX12_put_19 (fun H locs hP hD hS => ?_)
  obtain ⟨f11, hP, hD⟩ : ∃ f11 : Nat → Int32, va_P (dC, dI) vC [(h0, .inr (8, fs8)), (h1, .inl (k0, 4000, .inl f11)), (h2, .inl (k1, 1203, .inl (fun _ => 0))), (h3, .inl (k2, 1203, .inl (fun _ => 0))), (h4, .inl (k3, 1203, .inl (fun _ => 0))), (h5, .inl (k4, 2, .inl (fun _ => 0))), (h6, .inl (k5, 2, .inl (fun _ => 0))), (h7, .inl (k6, 2, .inl (fun _ => 0))), (h8, .inl (k7, 2, .inl (fun _ => 0))), (h9, .inl (k8, 2, .inl (fun _ => 0))), (h10, .inl (k9, 2, .inl (fun _ => 0))), (h11, .inl (k10, 2, .inl (fun _ => 0))), (h12, .inl (k11, 50, .inl (fun _ => 0))), (h13, .inl (k12, 2, .inl (upd (fun _ => 0) (0 : Int32).toNatClampNeg (vp_nar .boolean 0))))] H ∧ va_D A [(h0, .inr (8, fs8)), (h1, .inl (k0, 4000, .inl f11)), (h2, .inl (k1, 1203, .inl (fun _ => 0))), (h3, .inl (k2, 1203, .inl (fun _ => 0))), (h4, .inl (k3, 1203, .inl (fun _ => 0))), (h5, .inl (k4, 2, .inl (fun _ => 0))), (h6, .inl (k5, 2, .inl (fun _ => 0))), (h7, .inl (k6, 2, .inl (fun _ => 0))), (h8, .inl (k7, 2, .inl (fun _ => 0))), (h9, .inl (k8, 2, .inl (fun _ => 0))), (h10, .inl (k9, 2, .inl (fun _ => 0))), (h11, .inl (k10, 2, .inl (fun _ => 0))), (h12, .inl (k11, 50, .inl (fun _ => 0))), (h13, .inl (k12, 2, .inl (upd (fun _ => 0) (0 : Int32).toNatClampNeg (vp_nar .boolean 0))))] := ⟨_, hP, hD⟩
  refine lv_aload_n hx hb dX12_put_20 rfl (lv_at hl 1 rfl) ?_
  refine lv_dup hx hb dX12_put_21 rfl ?_
  refine va_get (D := (dC, dI)) (ci := 8) (v := .int 2) (C := RX12) (T := TX12) (N := 105) hx hb hw inX12 hown hK hP 0 rfl rfl 3 (by decide) (hw _ mP_147) (fun _ h9 => h9) (hF.get 2 rfl rfl) dX12_put_22 ?_
  refine lv_iconst (v := 1) hx hb dX12_put_25 (by decide) ?_
  refine lv_iadd hx hb dX12_put_26 ?_
  refine lv_nmi (y := 3) (by decide +kernel) ?_
  refine va_put (D := (dC, dI)) (ci := 8) (v := .int 3) (ty := .int) (C := RX12) (T := TX12) (N := 105) hx hb hw inX12 tyX12 tyX12_ok nmX12 hown hK hP hD hS 0 rfl rfl 3 (by decide) (hw _ mP_147) (fun _ h9 => h9) rfl (tyX12_ok 3 (by decide)) rfl rfl (hF.len (Nat.le_of_ble_eq_true rfl)) dX12_put_27 (fun H locs hP hD hS => ?_)
  obtain ⟨fs12, hF, hP, hD⟩ : ∃ fs12 : List Value, MF fs12 [.ref j0, .ref h1, .int 3, .int 0, .ref h2, .ref h3, .ref h4, .int 0, .int 0, .int 0, .int (-1), .int (-1), .ref h5, .ref h6, .ref h7, .ref h8, .ref h9, .ref h10, .ref h11, .int 0, .int 0, .int 0, .int 0, .ref h13, .ref h12, .int 0] ∧ va_P (dC, dI) vC [(h0, .inr (8, fs12)), (h1, .inl (k0, 4000, .inl f11)), (h2, .inl (k1, 1203, .inl (fun _ => 0))), (h3, .inl (k2, 1203, .inl (fun _ => 0))), (h4, .inl (k3, 1203, .inl (fun _ => 0))), (h5, .inl (k4, 2, .inl (fun _ => 0))), (h6, .inl (k5, 2, .inl (fun _ => 0))), (h7, .inl (k6, 2, .inl (fun _ => 0))), (h8, .inl (k7, 2, .inl (fun _ => 0))), (h9, .inl (k8, 2, .inl (fun _ => 0))), (h10, .inl (k9, 2, .inl (fun _ => 0))), (h11, .inl (k10, 2, .inl (fun _ => 0))), (h12, .inl (k11, 50, .inl (fun _ => 0))), (h13, .inl (k12, 2, .inl (upd (fun _ => 0) (0 : Int32).toNatClampNeg (vp_nar .boolean 0))))] H ∧ va_D A [(h0, .inr (8, fs12)), (h1, .inl (k0, 4000, .inl f11)), (h2, .inl (k1, 1203, .inl (fun _ => 0))), (h3, .inl (k2, 1203, .inl (fun _ => 0))), (h4, .inl (k3, 1203, .inl (fun _ => 0))), (h5, .inl (k4, 2, .inl (fun _ => 0))), (h6, .inl (k5, 2, .inl (fun _ => 0))), (h7, .inl (k6, 2, .inl (fun _ => 0))), (h8, .inl (k7, 2, .inl (fun _ => 0))), (h9, .inl (k8, 2, .inl (fun _ => 0))), (h10, .inl (k9, 2, .inl (fun _ => 0))), (h11, .inl (k10, 2, .inl (fun _ => 0))), (h12, .inl (k11, 50, .inl (fun _ => 0))), (h13, .inl (k12, 2, .inl (upd (fun _ => 0) (0 : Int32).toNatClampNeg (vp_nar .boolean 0))))] := ⟨_, hF.put 2 rfl, hP, hD⟩
  refine lv_iinc (v := 0) (lv' := [(2, .int 0), (0, .ref h0), (1, .int x0)]) hx hb dX12_put_30 hl (k := 0) rfl (by decide +kernel) (by decide) rfl (fun ls hl => ?_)
  refine lv_goto (tgt := 3) hx hb dX12_put_33 (by decide) ?_
  refine lv_iload_n hx hb dX12_put_3 rfl (lv_at hl 0 rfl) ?_
  refine lv_if_lt (tgt := 36) hx hb dX12_put_4 (by decide) (fun c => absurd c (by decide +kernel)) (fun _ => ?_)
  refine lv_aload_n hx hb dX12_put_7 rfl (lv_at hl 1 rfl) ?_
  refine va_get (D := (dC, dI)) (ci := 8) (v := .ref h1) (C := RX12) (T := TX12) (N := 105) hx hb hw inX12 hown hK hP 0 rfl rfl 2 (by decide) (hw _ mP_43) (fun _ h9 => h9) (hF.get 1 rfl rfl) dX12_put_8 ?_
  refine lv_aload_n hx hb dX12_put_11 rfl (lv_at hl 1 rfl) ?_
  refine va_get (D := (dC, dI)) (ci := 8) (v := .int 3) (C := RX12) (T := TX12) (N := 105) hx hb hw inX12 hown hK hP 0 rfl rfl 3 (by decide) (hw _ mP_147) (fun _ h9 => h9) (hF.get 2 rfl rfl) dX12_put_12 ?_
  refine lv_iload_n hx hb dX12_put_15 rfl (lv_at hl 2 rfl) ?_
  refine lv_iload_n hx hb dX12_put_16 rfl (lv_at hl 0 rfl) ?_
  refine lv_ishr hx hb dX12_put_17 ?_
  refine lv_topi (fun z13 ez13 => ?_)
  refine lv_i2b hx hb dX12_put_18 rfl ?_
  refine lv_topi (fun z14 ez14 => ?_)
  refine va_bast hx hb hK hP hD hS 1 0 rfl rfl (vin (by decide +kernel)) dX12_put_19 (fun H locs hP hD hS => ?_)
  obtain ⟨f15, hP, hD⟩ : ∃ f15 : Nat → Int32, va_P (dC, dI) vC [(h0, .inr (8, fs12)), (h1, .inl (k0, 4000, .inl f15)), (h2, .inl (k1, 1203, .inl (fun _ => 0))), (h3, .inl (k2, 1203, .inl (fun _ => 0))), (h4, .inl (k3, 1203, .inl (fun _ => 0))), (h5, .inl (k4, 2, .inl (fun _ => 0))), (h6, .inl (k5, 2, .inl (fun _ => 0))), (h7, .inl (k6, 2, .inl (fun _ => 0))), (h8, .inl (k7, 2, .inl (fun _ => 0))), (h9, .inl (k8, 2, .inl (fun _ => 0))), (h10, .inl (k9, 2, .inl (fun _ => 0))), (h11, .inl (k10, 2, .inl (fun _ => 0))), (h12, .inl (k11, 50, .inl (fun _ => 0))), (h13, .inl (k12, 2, .inl (upd (fun _ => 0) (0 : Int32).toNatClampNeg (vp_nar .boolean 0))))] H ∧ va_D A [(h0, .inr (8, fs12)), (h1, .inl (k0, 4000, .inl f15)), (h2, .inl (k1, 1203, .inl (fun _ => 0))), (h3, .inl (k2, 1203, .inl (fun _ => 0))), (h4, .inl (k3, 1203, .inl (fun _ => 0))), (h5, .inl (k4, 2, .inl (fun _ => 0))), (h6, .inl (k5, 2, .inl (fun _ => 0))), (h7, .inl (k6, 2, .inl (fun _ => 0))), (h8, .inl (k7, 2, .inl (fun _ => 0))), (h9, .inl (k8, 2, .inl (fun _ => 0))), (h10, .inl (k9, 2, .inl (fun _ => 0))), (h11, .inl (k10, 2, .inl (fun _ => 0))), (h12, .inl (k11, 50, .inl (fun _ => 0))), (h13, .inl (k12, 2, .inl (upd (fun _ => 0) (0 : Int32).toNatClampNeg (vp_nar .boolean 0))))] := ⟨_, hP, hD⟩
  refine lv_aload_n hx hb dX12_put_20 rfl (lv_at hl 1 rfl) ?_
  refine lv_dup hx hb dX12_put_21 rfl ?_
  refine va_get (D := (dC, dI)) (ci := 8) (v := .int 3) (C := RX12) (T := TX12) (N := 105) hx hb hw inX12 hown hK hP 0 rfl rfl 3 (by decide) (hw _ mP_147) (fun _ h9 => h9) (hF.get 2 rfl rfl) dX12_put_22 ?_
  refine lv_iconst (v := 1) hx hb dX12_put_25 (by decide) ?_
  refine lv_iadd hx hb dX12_put_26 ?_
  refine lv_nmi (y := 4) (by decide +kernel) ?_
  refine va_put (D := (dC, dI)) (ci := 8) (v := .int 4) (ty := .int) (C := RX12) (T := TX12) (N := 105) hx hb hw inX12 tyX12 tyX12_ok nmX12 hown hK hP hD hS 0 rfl rfl 3 (by decide) (hw _ mP_147) (fun _ h9 => h9) rfl (tyX12_ok 3 (by decide)) rfl rfl (hF.len (Nat.le_of_ble_eq_true rfl)) dX12_put_27 (fun H locs hP hD hS => ?_)
  obtain ⟨fs16, hF, hP, hD⟩ : ∃ fs16 : List Value, MF fs16 [.ref j0, .ref h1, .int 4, .int 0, .ref h2, .ref h3, .ref h4, .int 0, .int 0, .int 0, .int (-1), .int (-1), .ref h5, .ref h6, .ref h7, .ref h8, .ref h9, .ref h10, .ref h11, .int 0, .int 0, .int 0, .int 0, .ref h13, .ref h12, .int 0] ∧ va_P (dC, dI) vC [(h0, .inr (8, fs16)), (h1, .inl (k0, 4000, .inl f15)), (h2, .inl (k1, 1203, .inl (fun _ => 0))), (h3, .inl (k2, 1203, .inl (fun _ => 0))), (h4, .inl (k3, 1203, .inl (fun _ => 0))), (h5, .inl (k4, 2, .inl (fun _ => 0))), (h6, .inl (k5, 2, .inl (fun _ => 0))), (h7, .inl (k6, 2, .inl (fun _ => 0))), (h8, .inl (k7, 2, .inl (fun _ => 0))), (h9, .inl (k8, 2, .inl (fun _ => 0))), (h10, .inl (k9, 2, .inl (fun _ => 0))), (h11, .inl (k10, 2, .inl (fun _ => 0))), (h12, .inl (k11, 50, .inl (fun _ => 0))), (h13, .inl (k12, 2, .inl (upd (fun _ => 0) (0 : Int32).toNatClampNeg (vp_nar .boolean 0))))] H ∧ va_D A [(h0, .inr (8, fs16)), (h1, .inl (k0, 4000, .inl f15)), (h2, .inl (k1, 1203, .inl (fun _ => 0))), (h3, .inl (k2, 1203, .inl (fun _ => 0))), (h4, .inl (k3, 1203, .inl (fun _ => 0))), (h5, .inl (k4, 2, .inl (fun _ => 0))), (h6, .inl (k5, 2, .inl (fun _ => 0))), (h7, .inl (k6, 2, .inl (fun _ => 0))), (h8, .inl (k7, 2, .inl (fun _ => 0))), (h9, .inl (k8, 2, .inl (fun _ => 0))), (h10, .inl (k9, 2, .inl (fun _ => 0))), (h11, .inl (k10, 2, .inl (fun _ => 0))), (h12, .inl (k11, 50, .inl (fun _ => 0))), (h13, .inl (k12, 2, .inl (upd (fun _ => 0) (0 : Int32).toNatClampNeg (vp_nar .boolean 0))))] := ⟨_, hF.put 2 rfl, hP, hD⟩
  refine lv_iinc (v := (-8)) (lv' := [(2, .int (-8)), (0, .ref h0), (1, .int x0)]) hx hb dX12_put_30 hl (k := 0) rfl (by decide +kernel) (by decide) rfl (fun ls hl => ?_)
  refine lv_goto (tgt := 3) hx hb dX12_put_33 (by decide) ?_
  refine lv_iload_n hx hb dX12_put_3 rfl (lv_at hl 0 rfl) ?_
  refine lv_if_lt (tgt := 36) hx hb dX12_put_4 (by decide) (fun _ => ?_) (fun c => absurd (by decide +kernel) c)
  refine W.widen (k := 0) (n := 0) (Nat.le_of_ble_eq_true rfl) (Nat.le_of_ble_eq_true rfl) ?_
  exact W.vret hx hb hr (fun t ht hW => ⟨⟨(), rfl, trivial, f15, fs16, hF, by rw [ht]; exact hP, va_K.moved hW.alike hK, hD⟩, hS.F ht⟩) hS.2.2 dX12_put_36
