set_option maxHeartbeats 4000000 in
set_option maxRecDepth 100000 in
theorem tX9_at_n1 (l : Launch) (dC : Nat → ClassId) (dI : Nat → Nat → Nat) (h0 h1 : Nat) (sz : Nat) (k0 : ClassId) : Met l yX9_at (.code yX9_at cX9_at 3 (some .int) :: wP) ({ frames := 0, cells := 0, slots := 0, locals := 0 }) (Pz dC dI [.ref h0, .int 0, .int 0] sz [(h0, .inr (5, [.int 5, .int 1201, .ref h1, .int 1])), (h1, .inl (k0, 6005, .inl (upd (upd (upd (upd (upd (upd (upd (upd (fun _ => 0) (0 : Int32).toNatClampNeg (-1)) (1 : Int32).toNatClampNeg (-1)) (2 : Int32).toNatClampNeg (-1)) (3 : Int32).toNatClampNeg (-1)) (4 : Int32).toNatClampNeg (-1)) (0 : Int32).toNatClampNeg 37) (1 : Int32).toNatClampNeg 0) (2 : Int32).toNatClampNeg 0)))] [(k0, .int)]) (va_Qi (fun (r : Int32) (_ : Unit) => r = 37) (fun (_ : Unit) (t : State) => va_P (dC, dI) vC [(h0, .inr (5, [.int 5, .int 1201, .ref h1, .int 1])), (h1, .inl (k0, 6005, .inl (upd (upd (upd (upd (upd (upd (upd (upd (fun _ => 0) (0 : Int32).toNatClampNeg (-1)) (1 : Int32).toNatClampNeg (-1)) (2 : Int32).toNatClampNeg (-1)) (3 : Int32).toNatClampNeg (-1)) (4 : Int32).toNatClampNeg (-1)) (0 : Int32).toNatClampNeg 37) (1 : Int32).toNatClampNeg 0) (2 : Int32).toNatClampNeg 0)))] t.heap ∧ va_K (dC, dI) vC [(k0, .int)] t ∧ va_D (va_A [(h0, .inr (5, [.int 5, .int 1201, .ref h1, .int 1])), (h1, .inl (k0, 6005, .inl (upd (upd (upd (upd (upd (upd (upd (upd (fun _ => 0) (0 : Int32).toNatClampNeg (-1)) (1 : Int32).toNatClampNeg (-1)) (2 : Int32).toNatClampNeg (-1)) (3 : Int32).toNatClampNeg (-1)) (4 : Int32).toNatClampNeg (-1)) (0 : Int32).toNatClampNeg 37) (1 : Int32).toNatClampNeg 0) (2 : Int32).toNatClampNeg 0)))] sz) [(h0, .inr (5, [.int 5, .int 1201, .ref h1, .int 1])), (h1, .inl (k0, 6005, .inl (upd (upd (upd (upd (upd (upd (upd (upd (fun _ => 0) (0 : Int32).toNatClampNeg (-1)) (1 : Int32).toNatClampNeg (-1)) (2 : Int32).toNatClampNeg (-1)) (3 : Int32).toNatClampNeg (-1)) (4 : Int32).toNatClampNeg (-1)) (0 : Int32).toNatClampNeg 37) (1 : Int32).toNatClampNeg 0) (2 : Int32).toNatClampNeg 0)))]) (va_A [(h0, .inr (5, [.int 5, .int 1201, .ref h1, .int 1])), (h1, .inl (k0, 6005, .inl (upd (upd (upd (upd (upd (upd (upd (upd (fun _ => 0) (0 : Int32).toNatClampNeg (-1)) (1 : Int32).toNatClampNeg (-1)) (2 : Int32).toNatClampNeg (-1)) (3 : Int32).toNatClampNeg (-1)) (4 : Int32).toNatClampNeg (-1)) (0 : Int32).toNatClampNeg 37) (1 : Int32).toNatClampNeg 0) (2 : Int32).toNatClampNeg 0)))] sz)) 0 0 (va_A [(h0, .inr (5, [.int 5, .int 1201, .ref h1, .int 1])), (h1, .inl (k0, 6005, .inl (upd (upd (upd (upd (upd (upd (upd (upd (fun _ => 0) (0 : Int32).toNatClampNeg (-1)) (1 : Int32).toNatClampNeg (-1)) (2 : Int32).toNatClampNeg (-1)) (3 : Int32).toNatClampNeg (-1)) (4 : Int32).toNatClampNeg (-1)) (0 : Int32).toNatClampNeg 37) (1 : Int32).toNatClampNeg 0) (2 : Int32).toNatClampNeg 0)))] sz) := by
  refine Met.ofW (cc := cX9_at) (maxL := 3) (ret := (some .int)) (by decide) rfl ?_
  intro p e s m args below meth c s₁ B hml hv
  obtain ⟨rfl, hsz, hP, hK, hD0⟩ := hv
  have hx := B.exec
  have hb := B.bytes
  have hr := B.returns
  have hts := atoms_spec (ws := .code yX9_at cX9_at 3 (some .int) :: wP) B.pre
  have hw : ∀ w ∈ wP, w.before _ s = true := fun w h => hts w (List.mem_cons_of_mem _ h)
  have hown : s.vm.findClass RX9 = some m.cls := findClass_of_methodNamed B.named
  have hlocks := B.notSynchronized
  subst hsz
  have hD := hD0.self (sz := s.heap.size)
  generalize hAe : va_A [(h0, .inr (5, [.int 5, .int 1201, .ref h1, .int 1])), (h1, .inl (k0, 6005, .inl (upd (upd (upd (upd (upd (upd (upd (upd (fun _ => 0) (0 : Int32).toNatClampNeg (-1)) (1 : Int32).toNatClampNeg (-1)) (2 : Int32).toNatClampNeg (-1)) (3 : Int32).toNatClampNeg (-1)) (4 : Int32).toNatClampNeg (-1)) (0 : Int32).toNatClampNeg 37) (1 : Int32).toNatClampNeg 0) (2 : Int32).toNatClampNeg 0)))] s.heap.size = A at hD ⊢
  have hA : ∀ q : Nat, s.heap.size ≤ q → A q := fun q h => by rw [← hAe]; exact Or.inr h
  have hS : va_S A s.heap s.heap [] := va_S.rf
  have hP : va_P (dC, dI) vC [(h0, .inr (5, [.int 5, .int 1201, .ref h1, .int 1])), (h1, .inl (k0, 6005, .inl (upd (upd (upd (upd (upd (upd (upd (upd (fun _ => 0) (0 : Int32).toNatClampNeg (-1)) (1 : Int32).toNatClampNeg (-1)) (2 : Int32).toNatClampNeg (-1)) (3 : Int32).toNatClampNeg (-1)) (4 : Int32).toNatClampNeg (-1)) (0 : Int32).toNatClampNeg 37) (1 : Int32).toNatClampNeg 0) (2 : Int32).toNatClampNeg 0)))] s.heap := hP
  have hl := lv_entry ([.ref h0, .int 0, .int 0]) (n := 3) (Nat.le_of_ble_eq_true rfl)
  rw [lg_entry_eq]
  generalize (lg_sl ([.ref h0, .int 0, .int 0]) ++ List.replicate (3 - (lg_sl ([.ref h0, .int 0, .int 0])).length) Slot.unset).toArray = ls at hl ⊢
  have hl : lv_has ls 3 [(0, .ref h0), (1, .int 0), (2, .int 0)] := hl
  refine lv_iload_n hx hb dX9_at_0 rfl (lv_at hl 1 rfl) ?_
  refine lv_if_lt (tgt := 24) hx hb dX9_at_1 (by decide) (fun c => absurd c (by decide +kernel)) (fun _ => ?_)
  refine lv_iload_n hx hb dX9_at_4 rfl (lv_at hl 1 rfl) ?_
  refine lv_aload_n hx hb dX9_at_5 rfl (lv_at hl 0 rfl) ?_
  refine va_get (D := (dC, dI)) (ci := 5) (v := .int 1) (C := RX9) (T := TX9) (N := 4) hx hb hw inX9 hown hK hP 0 rfl rfl 3 (by decide) (hw _ mP_263) (fun _ h9 => h9) rfl dX9_at_6 ?_
  refine lv_icmp_ge (tgt := 24) hx hb dX9_at_9 (by decide) (fun c => absurd c (by decide +kernel)) (fun _ => ?_)
  refine lv_iload_n hx hb dX9_at_12 rfl (lv_at hl 2 rfl) ?_
  refine lv_if_lt (tgt := 24) hx hb dX9_at_13 (by decide) (fun c => absurd c (by decide +kernel)) (fun _ => ?_)
  refine lv_iload_n hx hb dX9_at_16 rfl (lv_at hl 2 rfl) ?_
  refine lv_aload_n hx hb dX9_at_17 rfl (lv_at hl 0 rfl) ?_
  refine va_get (D := (dC, dI)) (ci := 5) (v := .int 5) (C := RX9) (T := TX9) (N := 4) hx hb hw inX9 hown hK hP 0 rfl rfl 0 (by decide) (hw _ mP_177) (fun _ h9 => h9) rfl dX9_at_18 ?_
  refine lv_icmp_lt (tgt := 26) hx hb dX9_at_21 (by decide) (fun _ => ?_) (fun c => absurd (by decide +kernel) c)
  refine lv_aload_n hx hb dX9_at_26 rfl (lv_at hl 0 rfl) ?_
  refine va_get (D := (dC, dI)) (ci := 5) (v := .ref h1) (C := RX9) (T := TX9) (N := 4) hx hb hw inX9 hown hK hP 0 rfl rfl 2 (by decide) (hw _ mP_179) (fun _ h9 => h9) rfl dX9_at_27 ?_
  refine lv_iload_n hx hb dX9_at_30 rfl (lv_at hl 1 rfl) ?_
  refine lv_aload_n hx hb dX9_at_31 rfl (lv_at hl 0 rfl) ?_
  refine va_get (D := (dC, dI)) (ci := 5) (v := .int 5) (C := RX9) (T := TX9) (N := 4) hx hb hw inX9 hown hK hP 0 rfl rfl 0 (by decide) (hw _ mP_177) (fun _ h9 => h9) rfl dX9_at_32 ?_
  refine lv_imul hx hb dX9_at_35 ?_
  refine lv_nmi (y := 0) (by decide +kernel) ?_
  refine lv_iload_n hx hb dX9_at_36 rfl (lv_at hl 2 rfl) ?_
  refine lv_iadd hx hb dX9_at_37 ?_
  refine lv_nmi (y := 0) (by decide +kernel) ?_
  refine va_iald hx hb hK hP 1 0 rfl rfl (vin (by decide +kernel)) dX9_at_38 ?_
  refine lv_nmi (y := 37) (by decide +kernel) ?_
  refine W.widen (k := 0) (n := 0) (Nat.le_of_ble_eq_true rfl) (Nat.le_of_ble_eq_true rfl) ?_
  exact W.iret (v := 37) hx hb hr (fun t ht hW => ⟨⟨37, (), rfl, rfl, by rw [ht]; exact hP, va_K.moved hW.alike hK, hD⟩, hS.F ht⟩) hS.2.2 dX9_at_39
set_option maxHeartbeats 4000000 in
set_option maxRecDepth 100000 in
theorem tX10_scan_n1 (l : Launch) (dC : Nat → ClassId) (dI : Nat → Nat → Nat) (h0 h1 h2 h3 h4 j0 : Nat) (sz : Nat) (k0 k1 k2 : ClassId) : Met l yX10_scan (.code yX10_scan cX10_scan 7 none :: wP) ({ frames := 5, cells := 0, slots := 0, locals := 114 }) (Pz dC dI [.ref h0, .ref h1, .int 0] sz [(h0, .inr (6, [.ref h2, .ref h3, .ref j0, .null, .int 0, .int 0, .int (-1)])), (h1, .inl (k0, 4000, .inl (fun _ => 0))), (h2, .inr (5, [.int 5, .int 1201, .ref h4, .int 0])), (h3, .inl (k1, 1201, .inr (.inl (fun _ => 0)))), (h4, .inl (k2, 6005, .inl (fun _ => 0)))] [(k0, .byte), (k1, .long), (k2, .int)]) (va_Qv (fun (_ : Unit) => True) (fun (_ : Unit) (t : State) => ∃ (f4 : Nat → Int64), va_P (dC, dI) vC [(h0, .inr (6, [.ref h2, .ref h3, .ref j0, .ref h1, .int 0, .int 0, .int (-1)])), (h3, .inl (k1, 1201, .inr (.inl f4))), (h1, .inl (k0, 4000, .inl (fun _ => 0))), (h2, .inr (5, [.int 5, .int 1201, .ref h4, .int 1])), (h4, .inl (k2, 6005, .inl (upd (upd (upd (upd (upd (upd (upd (upd (fun _ => 0) (0 : Int32).toNatClampNeg (-1)) (1 : Int32).toNatClampNeg (-1)) (2 : Int32).toNatClampNeg (-1)) (3 : Int32).toNatClampNeg (-1)) (4 : Int32).toNatClampNeg (-1)) (0 : Int32).toNatClampNeg 37) (1 : Int32).toNatClampNeg 0) (2 : Int32).toNatClampNeg 0)))] t.heap ∧ va_K (dC, dI) vC [(k1, .long), (k0, .byte), (k2, .int)] t ∧ va_D (va_A [(h0, .inr (6, [.ref h2, .ref h3, .ref j0, .null, .int 0, .int 0, .int (-1)])), (h1, .inl (k0, 4000, .inl (fun _ => 0))), (h2, .inr (5, [.int 5, .int 1201, .ref h4, .int 0])), (h3, .inl (k1, 1201, .inr (.inl (fun _ => 0)))), (h4, .inl (k2, 6005, .inl (fun _ => 0)))] sz) [(h0, .inr (6, [.ref h2, .ref h3, .ref j0, .ref h1, .int 0, .int 0, .int (-1)])), (h3, .inl (k1, 1201, .inr (.inl f4))), (h1, .inl (k0, 4000, .inl (fun _ => 0))), (h2, .inr (5, [.int 5, .int 1201, .ref h4, .int 1])), (h4, .inl (k2, 6005, .inl (upd (upd (upd (upd (upd (upd (upd (upd (fun _ => 0) (0 : Int32).toNatClampNeg (-1)) (1 : Int32).toNatClampNeg (-1)) (2 : Int32).toNatClampNeg (-1)) (3 : Int32).toNatClampNeg (-1)) (4 : Int32).toNatClampNeg (-1)) (0 : Int32).toNatClampNeg 37) (1 : Int32).toNatClampNeg 0) (2 : Int32).toNatClampNeg 0)))]) (va_A [(h0, .inr (6, [.ref h2, .ref h3, .ref j0, .null, .int 0, .int 0, .int (-1)])), (h1, .inl (k0, 4000, .inl (fun _ => 0))), (h2, .inr (5, [.int 5, .int 1201, .ref h4, .int 0])), (h3, .inl (k1, 1201, .inr (.inl (fun _ => 0)))), (h4, .inl (k2, 6005, .inl (fun _ => 0)))] sz)) 0 0 (va_A [(h0, .inr (6, [.ref h2, .ref h3, .ref j0, .null, .int 0, .int 0, .int (-1)])), (h1, .inl (k0, 4000, .inl (fun _ => 0))), (h2, .inr (5, [.int 5, .int 1201, .ref h4, .int 0])), (h3, .inl (k1, 1201, .inr (.inl (fun _ => 0)))), (h4, .inl (k2, 6005, .inl (fun _ => 0)))] sz) := by
  refine Met.ofW (cc := cX10_scan) (maxL := 7) (ret := none) (by decide) rfl ?_
  intro p e s m args below meth c s₁ B hml hv
  obtain ⟨rfl, hsz, hP, hK, hD0⟩ := hv
  have hx := B.exec
  have hb := B.bytes
  have hr := B.returns
  have hts := atoms_spec (ws := .code yX10_scan cX10_scan 7 none :: wP) B.pre
  have hw : ∀ w ∈ wP, w.before _ s = true := fun w h => hts w (List.mem_cons_of_mem _ h)
  have hown : s.vm.findClass RX10 = some m.cls := findClass_of_methodNamed B.named
  have hlocks := B.notSynchronized
  subst hsz
  have hD := hD0.self (sz := s.heap.size)
  generalize hAe : va_A [(h0, .inr (6, [.ref h2, .ref h3, .ref j0, .null, .int 0, .int 0, .int (-1)])), (h1, .inl (k0, 4000, .inl (fun _ => 0))), (h2, .inr (5, [.int 5, .int 1201, .ref h4, .int 0])), (h3, .inl (k1, 1201, .inr (.inl (fun _ => 0)))), (h4, .inl (k2, 6005, .inl (fun _ => 0)))] s.heap.size = A at hD ⊢
  have hA : ∀ q : Nat, s.heap.size ≤ q → A q := fun q h => by rw [← hAe]; exact Or.inr h
  have hS : va_S A s.heap s.heap [] := va_S.rf
  have hP : va_P (dC, dI) vC [(h0, .inr (6, [.ref h2, .ref h3, .ref j0, .null, .int 0, .int 0, .int (-1)])), (h1, .inl (k0, 4000, .inl (fun _ => 0))), (h2, .inr (5, [.int 5, .int 1201, .ref h4, .int 0])), (h3, .inl (k1, 1201, .inr (.inl (fun _ => 0)))), (h4, .inl (k2, 6005, .inl (fun _ => 0)))] s.heap := hP
  have hl := lv_entry ([.ref h0, .ref h1, .int 0]) (n := 7) (Nat.le_of_ble_eq_true rfl)
  rw [lg_entry_eq]
  generalize (lg_sl ([.ref h0, .ref h1, .int 0]) ++ List.replicate (7 - (lg_sl ([.ref h0, .ref h1, .int 0])).length) Slot.unset).toArray = ls at hl ⊢
  have hl : lv_has ls 7 [(0, .ref h0), (1, .ref h1), (2, .int 0)] := hl
  refine lv_aload_n hx hb dX10_scan_0 rfl (lv_at hl 0 rfl) ?_
  refine lv_aload_n hx hb dX10_scan_1 rfl (lv_at hl 1 rfl) ?_
  refine va_put (D := (dC, dI)) (ci := 6) (v := .ref h1) (ty := .array .byte) (C := RX10) (T := TX10) (N := 7) hx hb hw inX10 tyX10 tyX10_ok nmX10 hown hK hP hD hS 0 rfl rfl 3 (by decide) (hw _ mP_260) (fun _ h9 => h9) rfl (tyX10_ok 3 (by decide)) rfl rfl (Nat.le_of_ble_eq_true rfl) dX10_scan_2 (fun H locs hP hD hS => ?_)
  have hP : va_P (dC, dI) vC [(h0, .inr (6, [.ref h2, .ref h3, .ref j0, .ref h1, .int 0, .int 0, .int (-1)])), (h1, .inl (k0, 4000, .inl (fun _ => 0))), (h2, .inr (5, [.int 5, .int 1201, .ref h4, .int 0])), (h3, .inl (k1, 1201, .inr (.inl (fun _ => 0)))), (h4, .inl (k2, 6005, .inl (fun _ => 0)))] H := hP
  have hD : va_D A [(h0, .inr (6, [.ref h2, .ref h3, .ref j0, .ref h1, .int 0, .int 0, .int (-1)])), (h1, .inl (k0, 4000, .inl (fun _ => 0))), (h2, .inr (5, [.int 5, .int 1201, .ref h4, .int 0])), (h3, .inl (k1, 1201, .inr (.inl (fun _ => 0)))), (h4, .inl (k2, 6005, .inl (fun _ => 0)))] := hD
  refine lv_aload_n hx hb dX10_scan_5 rfl (lv_at hl 0 rfl) ?_
  refine lv_iload_n hx hb dX10_scan_6 rfl (lv_at hl 2 rfl) ?_
  refine va_put (D := (dC, dI)) (ci := 6) (v := .int 0) (ty := .int) (C := RX10) (T := TX10) (N := 7) hx hb hw inX10 tyX10 tyX10_ok nmX10 hown hK hP hD hS 0 rfl rfl 4 (by decide) (hw _ mP_261) (fun _ h9 => h9) rfl (tyX10_ok 4 (by decide)) rfl rfl (Nat.le_of_ble_eq_true rfl) dX10_scan_7 (fun H locs hP hD hS => ?_)
  have hP : va_P (dC, dI) vC [(h0, .inr (6, [.ref h2, .ref h3, .ref j0, .ref h1, .int 0, .int 0, .int (-1)])), (h1, .inl (k0, 4000, .inl (fun _ => 0))), (h2, .inr (5, [.int 5, .int 1201, .ref h4, .int 0])), (h3, .inl (k1, 1201, .inr (.inl (fun _ => 0)))), (h4, .inl (k2, 6005, .inl (fun _ => 0)))] H := hP
  have hD : va_D A [(h0, .inr (6, [.ref h2, .ref h3, .ref j0, .ref h1, .int 0, .int 0, .int (-1)])), (h1, .inl (k0, 4000, .inl (fun _ => 0))), (h2, .inr (5, [.int 5, .int 1201, .ref h4, .int 0])), (h3, .inl (k1, 1201, .inr (.inl (fun _ => 0)))), (h4, .inl (k2, 6005, .inl (fun _ => 0)))] := hD
  refine lv_aload_n hx hb dX10_scan_10 rfl (lv_at hl 0 rfl) ?_
  refine lv_iconst (v := 0) hx hb dX10_scan_11 (by decide) ?_
  refine va_put (D := (dC, dI)) (ci := 6) (v := .int 0) (ty := .int) (C := RX10) (T := TX10) (N := 7) hx hb hw inX10 tyX10 tyX10_ok nmX10 hown hK hP hD hS 0 rfl rfl 5 (by decide) (hw _ mP_262) (fun _ h9 => h9) rfl (tyX10_ok 5 (by decide)) rfl rfl (Nat.le_of_ble_eq_true rfl) dX10_scan_12 (fun H locs hP hD hS => ?_)
  have hP : va_P (dC, dI) vC [(h0, .inr (6, [.ref h2, .ref h3, .ref j0, .ref h1, .int 0, .int 0, .int (-1)])), (h1, .inl (k0, 4000, .inl (fun _ => 0))), (h2, .inr (5, [.int 5, .int 1201, .ref h4, .int 0])), (h3, .inl (k1, 1201, .inr (.inl (fun _ => 0)))), (h4, .inl (k2, 6005, .inl (fun _ => 0)))] H := hP
  have hD : va_D A [(h0, .inr (6, [.ref h2, .ref h3, .ref j0, .ref h1, .int 0, .int 0, .int (-1)])), (h1, .inl (k0, 4000, .inl (fun _ => 0))), (h2, .inr (5, [.int 5, .int 1201, .ref h4, .int 0])), (h3, .inl (k1, 1201, .inr (.inl (fun _ => 0)))), (h4, .inl (k2, 6005, .inl (fun _ => 0)))] := hD
  refine lv_aload_n hx hb dX10_scan_15 rfl (lv_at hl 0 rfl) ?_
  refine va_get (D := (dC, dI)) (ci := 6) (v := .ref h2) (C := RX10) (T := TX10) (N := 7) hx hb hw inX10 hown hK hP 0 rfl rfl 0 (by decide) (hw _ mP_183) (fun _ h9 => h9) rfl dX10_scan_16 ?_
  have hPc := hP.sub (ws' := [(h2, .inr (5, [.int 5, .int 1201, .ref h4, .int 0])), (h4, .inl (k2, 6005, .inl (fun _ => 0)))]) [2, 4] rfl
  have hDc := hD.sub (ws' := [(h2, .inr (5, [.int 5, .int 1201, .ref h4, .int 0])), (h4, .inl (k2, 6005, .inl (fun _ => 0)))]) [2, 4] (by decide) rfl
  have hKc := hK.sub (tys' := [(k2, .int)]) [2] rfl
  have hFc := va_free (wc := [(h2, .inr (5, [.int 5, .int 1201, .ref h4, .int 0])), (h4, .inl (k2, 6005, .inl (fun _ => 0)))]) hD hS hA [2, 4] rfl
  refine va_callv (va_runV (As := []) (rest := []) ⟨hx, hb, hml, hown, hw⟩ (tX9_cut_n1 l dC dI h2 h4 H.size k2) ⟨callB_of 0 hw (gd mP_264) rfl rfl rfl (hw _ mP_171) (hw _ mP_265) hdX9_cut ⟨Nat.le_of_ble_eq_true rfl, Nat.le_of_ble_eq_true rfl⟩, (hw _ mP_266), (hw _ mP_267)⟩ ⟨fbz, va_recv hKc hPc (ci := 5) (q0 := 0) rfl rfl, prz hPc hKc hDc⟩ rfl rfl hl.1 rfl (lv_room (Nat.le_of_ble_eq_true rfl)) dX10_scan_19 ⟨Nat.le_of_ble_eq_true rfl, Nat.le_of_ble_eq_true rfl⟩) hS (fun q _ h => hFc q h) hFc (fun u1 t H1 locs ht hvm hpo hB hz1 hk1 hS => ?_)
  obtain ⟨hP1, hK1, hD1⟩ := hB
  rw [ht] at hP1
  have hK1 := va_K.moved hvm.symm hK1
  obtain ⟨hP, hD⟩ := va_join (wr := [(h0, .inr (6, [.ref h2, .ref h3, .ref j0, .ref h1, .int 0, .int 0, .int (-1)])), (h1, .inl (k0, 4000, .inl (fun _ => 0))), (h3, .inl (k1, 1201, .inr (.inl (fun _ => 0))))]) (w1 := [(h2, .inr (5, [.int 5, .int 1201, .ref h4, .int 0])), (h4, .inl (k2, 6005, .inl (fun _ => 0)))]) hP hD [2, 4] [0, 1, 3] rfl rfl (by decide) (by decide) hk1 hFc hP1 hD1
  have hK := (hK.sub (tys' := [(k0, .byte), (k1, .long)]) [0, 1] rfl).app hK1
  generalize H1 = H at hP hS ⊢
  have hP : va_P (dC, dI) vC [(h0, .inr (6, [.ref h2, .ref h3, .ref j0, .ref h1, .int 0, .int 0, .int (-1)])), (h1, .inl (k0, 4000, .inl (fun _ => 0))), (h3, .inl (k1, 1201, .inr (.inl (fun _ => 0)))), (h2, .inr (5, [.int 5, .int 1201, .ref h4, .int 0])), (h4, .inl (k2, 6005, .inl (fun _ => 0)))] H := hP
  have hD : va_D A [(h0, .inr (6, [.ref h2, .ref h3, .ref j0, .ref h1, .int 0, .int 0, .int (-1)])), (h1, .inl (k0, 4000, .inl (fun _ => 0))), (h3, .inl (k1, 1201, .inr (.inl (fun _ => 0)))), (h2, .inr (5, [.int 5, .int 1201, .ref h4, .int 0])), (h4, .inl (k2, 6005, .inl (fun _ => 0)))] := hD
  have hK : va_K (dC, dI) vC [(k0, .byte), (k1, .long), (k2, .int)] s := hK
  refine lv_iconst (v := 0) hx hb dX10_scan_22 (by decide) ?_
  refine lv_istore_n (lv' := [(3, .int 0), (0, .ref h0), (1, .ref h1), (2, .int 0)]) hx hb dX10_scan_23 rfl hl (by decide) rfl (fun ls hl => ?_)
  refine lv_iconst (v := 1) hx hb dX10_scan_24 (by decide) ?_
  refine lv_istore (lv' := [(4, .int 1), (3, .int 0), (0, .ref h0), (1, .ref h1), (2, .int 0)]) hx hb dX10_scan_25 hl (by decide) rfl (fun ls hl => ?_)
  refine lv_iconst (v := 0) hx hb dX10_scan_27 (by decide) ?_
  refine lv_istore (lv' := [(5, .int 0), (4, .int 1), (3, .int 0), (0, .ref h0), (1, .ref h1), (2, .int 0)]) hx hb dX10_scan_28 hl (by decide) rfl (fun ls hl => ?_)
  refine lv_iload hx hb dX10_scan_30 (lv_at hl 0 rfl) ?_
  refine lv_sipush (v := 1200) hx hb dX10_scan_32 (by decide) ?_
  refine lv_icmp_gt (tgt := 94) hx hb dX10_scan_35 (by decide) (fun c => absurd c (by decide +kernel)) (fun _ => ?_)
  refine lv_iload hx hb dX10_scan_38 (lv_at hl 1 rfl) ?_
  refine lv_if_eq (tgt := 94) hx hb dX10_scan_40 (by decide) (fun c => absurd c (by decide +kernel)) (fun _ => ?_)
  refine lv_aload_n hx hb dX10_scan_43 rfl (lv_at hl 3 rfl) ?_
  refine lv_iload_n hx hb dX10_scan_44 rfl (lv_at hl 2 rfl) ?_
  have hPc := hP.sub (ws' := [(h0, .inr (6, [.ref h2, .ref h3, .ref j0, .ref h1, .int 0, .int 0, .int (-1)])), (h2, .inr (5, [.int 5, .int 1201, .ref h4, .int 0])), (h3, .inl (k1, 1201, .inr (.inl (fun _ => 0)))), (h1, .inl (k0, 4000, .inl (fun _ => 0))), (h4, .inl (k2, 6005, .inl (fun _ => 0)))]) [0, 3, 2, 1, 4] rfl
  have hDc := hD.sub (ws' := [(h0, .inr (6, [.ref h2, .ref h3, .ref j0, .ref h1, .int 0, .int 0, .int (-1)])), (h2, .inr (5, [.int 5, .int 1201, .ref h4, .int 0])), (h3, .inl (k1, 1201, .inr (.inl (fun _ => 0)))), (h1, .inl (k0, 4000, .inl (fun _ => 0))), (h4, .inl (k2, 6005, .inl (fun _ => 0)))]) [0, 3, 2, 1, 4] (by decide) rfl
  have hKc := hK.sub (tys' := [(k1, .long), (k0, .byte), (k2, .int)]) [1, 0, 2] rfl
  have hFc := va_free (wc := [(h0, .inr (6, [.ref h2, .ref h3, .ref j0, .ref h1, .int 0, .int 0, .int (-1)])), (h2, .inr (5, [.int 5, .int 1201, .ref h4, .int 0])), (h3, .inl (k1, 1201, .inr (.inl (fun _ => 0)))), (h1, .inl (k0, 4000, .inl (fun _ => 0))), (h4, .inl (k2, 6005, .inl (fun _ => 0)))]) hD hS hA [0, 3, 2, 1, 4] rfl
  refine va_calli (va_runV (As := [.int 0]) (rest := []) ⟨hx, hb, hml, hown, hw⟩ (tX10_skipBlanks_n1 l dC dI h0 h2 h3 h1 h4 j0 H.size k1 k0 k2) ⟨callB_of 1 hw (gd mP_268) rfl rfl rfl (hw _ mP_167) (hw _ mP_269) hdX10_skipBlanks ⟨Nat.le_of_ble_eq_true rfl, Nat.le_of_ble_eq_true rfl⟩, (hw _ mP_270), (hw _ mP_271)⟩ ⟨fbz, va_recv hKc hPc (ci := 6) (q0 := 0) rfl rfl, prz hPc hKc hDc⟩ rfl rfl hl.1 rfl (lv_room (Nat.le_of_ble_eq_true rfl)) dX10_scan_45 ⟨Nat.le_of_ble_eq_true rfl, Nat.le_of_ble_eq_true rfl⟩) hS (fun q _ h => hFc q h) hFc (fun r2 u2 t H1 locs ht hvm hpo hB hz1 hk1 hS => ?_)
  obtain ⟨hP1, hK1, hD1⟩ := hB
  rw [ht] at hP1
  have hK1 := va_K.moved hvm.symm hK1
  obtain ⟨hP, hD⟩ := va_join (wr := []) (w1 := [(h0, .inr (6, [.ref h2, .ref h3, .ref j0, .ref h1, .int 0, .int 0, .int (-1)])), (h2, .inr (5, [.int 5, .int 1201, .ref h4, .int 0])), (h3, .inl (k1, 1201, .inr (.inl (fun _ => 0)))), (h1, .inl (k0, 4000, .inl (fun _ => 0))), (h4, .inl (k2, 6005, .inl (fun _ => 0)))]) hP hD [0, 3, 2, 1, 4] [] rfl rfl (by decide) (by decide) hk1 hFc hP1 hD1
  have hK := (hK.sub (tys' := []) [] rfl).app hK1
  generalize H1 = H at hP hS ⊢
  have hP : va_P (dC, dI) vC [(h0, .inr (6, [.ref h2, .ref h3, .ref j0, .ref h1, .int 0, .int 0, .int (-1)])), (h2, .inr (5, [.int 5, .int 1201, .ref h4, .int 0])), (h3, .inl (k1, 1201, .inr (.inl (fun _ => 0)))), (h1, .inl (k0, 4000, .inl (fun _ => 0))), (h4, .inl (k2, 6005, .inl (fun _ => 0)))] H := hP
  have hD : va_D A [(h0, .inr (6, [.ref h2, .ref h3, .ref j0, .ref h1, .int 0, .int 0, .int (-1)])), (h2, .inr (5, [.int 5, .int 1201, .ref h4, .int 0])), (h3, .inl (k1, 1201, .inr (.inl (fun _ => 0)))), (h1, .inl (k0, 4000, .inl (fun _ => 0))), (h4, .inl (k2, 6005, .inl (fun _ => 0)))] := hD
  have hK : va_K (dC, dI) vC [(k1, .long), (k0, .byte), (k2, .int)] s := hK
  have hpo : r2 = 0 := hpo
  subst hpo
  refine lv_istore_n (lv' := [(3, .int 0), (5, .int 0), (4, .int 1), (0, .ref h0), (1, .ref h1), (2, .int 0)]) hx hb dX10_scan_48 rfl hl (by decide) rfl (fun ls hl => ?_)
  refine lv_aload_n hx hb dX10_scan_49 rfl (lv_at hl 3 rfl) ?_
  refine lv_iload_n hx hb dX10_scan_50 rfl (lv_at hl 0 rfl) ?_
  have hPc := hP.sub (ws' := [(h0, .inr (6, [.ref h2, .ref h3, .ref j0, .ref h1, .int 0, .int 0, .int (-1)])), (h2, .inr (5, [.int 5, .int 1201, .ref h4, .int 0])), (h3, .inl (k1, 1201, .inr (.inl (fun _ => 0)))), (h1, .inl (k0, 4000, .inl (fun _ => 0))), (h4, .inl (k2, 6005, .inl (fun _ => 0)))]) [0, 1, 2, 3, 4] rfl
  have hDc := hD.sub (ws' := [(h0, .inr (6, [.ref h2, .ref h3, .ref j0, .ref h1, .int 0, .int 0, .int (-1)])), (h2, .inr (5, [.int 5, .int 1201, .ref h4, .int 0])), (h3, .inl (k1, 1201, .inr (.inl (fun _ => 0)))), (h1, .inl (k0, 4000, .inl (fun _ => 0))), (h4, .inl (k2, 6005, .inl (fun _ => 0)))]) [0, 1, 2, 3, 4] (by decide) rfl
  have hKc := hK.sub (tys' := [(k1, .long), (k0, .byte), (k2, .int)]) [0, 1, 2] rfl
  have hFc := va_free (wc := [(h0, .inr (6, [.ref h2, .ref h3, .ref j0, .ref h1, .int 0, .int 0, .int (-1)])), (h2, .inr (5, [.int 5, .int 1201, .ref h4, .int 0])), (h3, .inl (k1, 1201, .inr (.inl (fun _ => 0)))), (h1, .inl (k0, 4000, .inl (fun _ => 0))), (h4, .inl (k2, 6005, .inl (fun _ => 0)))]) hD hS hA [0, 1, 2, 3, 4] rfl
  refine va_calli (va_runV (As := [.int 0]) (rest := []) ⟨hx, hb, hml, hown, hw⟩ (tX10_scanToken_n1 l dC dI h0 h2 h3 h1 h4 j0 H.size k1 k0 k2) ⟨callB_of 1 hw (gd mP_301) rfl rfl rfl (hw _ mP_167) (hw _ mP_302) hdX10_scanToken ⟨Nat.le_of_ble_eq_true rfl, Nat.le_of_ble_eq_true rfl⟩, (hw _ mP_303), (hw _ mP_304)⟩ ⟨fbz, va_recv hKc hPc (ci := 6) (q0 := 0) rfl rfl, prz hPc hKc hDc⟩ rfl rfl hl.1 rfl (lv_room (Nat.le_of_ble_eq_true rfl)) dX10_scan_51 ⟨Nat.le_of_ble_eq_true rfl, Nat.le_of_ble_eq_true rfl⟩) hS (fun q _ h => hFc q h) hFc (fun r3 u3 t H1 locs ht hvm hpo hB hz1 hk1 hS => ?_)
  obtain ⟨f4, hP1, hK1, hD1⟩ := hB
  rw [ht] at hP1
  have hK1 := va_K.moved hvm.symm hK1
  obtain ⟨hP, hD⟩ := va_join (wr := []) (w1 := [(h0, .inr (6, [.ref h2, .ref h3, .ref j0, .ref h1, .int 0, .int 0, .int (-1)])), (h3, .inl (k1, 1201, .inr (.inl f4))), (h1, .inl (k0, 4000, .inl (fun _ => 0))), (h2, .inr (5, [.int 5, .int 1201, .ref h4, .int 1])), (h4, .inl (k2, 6005, .inl (upd (upd (upd (upd (upd (upd (upd (upd (fun _ => 0) (0 : Int32).toNatClampNeg (-1)) (1 : Int32).toNatClampNeg (-1)) (2 : Int32).toNatClampNeg (-1)) (3 : Int32).toNatClampNeg (-1)) (4 : Int32).toNatClampNeg (-1)) (0 : Int32).toNatClampNeg 37) (1 : Int32).toNatClampNeg 0) (2 : Int32).toNatClampNeg 0)))]) hP hD [0, 1, 2, 3, 4] [] rfl rfl (by decide) (by decide) hk1 hFc hP1 hD1
  have hK := (hK.sub (tys' := []) [] rfl).app hK1
  generalize H1 = H at hP hS ⊢
  have hP : va_P (dC, dI) vC [(h0, .inr (6, [.ref h2, .ref h3, .ref j0, .ref h1, .int 0, .int 0, .int (-1)])), (h3, .inl (k1, 1201, .inr (.inl f4))), (h1, .inl (k0, 4000, .inl (fun _ => 0))), (h2, .inr (5, [.int 5, .int 1201, .ref h4, .int 1])), (h4, .inl (k2, 6005, .inl (upd (upd (upd (upd (upd (upd (upd (upd (fun _ => 0) (0 : Int32).toNatClampNeg (-1)) (1 : Int32).toNatClampNeg (-1)) (2 : Int32).toNatClampNeg (-1)) (3 : Int32).toNatClampNeg (-1)) (4 : Int32).toNatClampNeg (-1)) (0 : Int32).toNatClampNeg 37) (1 : Int32).toNatClampNeg 0) (2 : Int32).toNatClampNeg 0)))] H := hP
  have hD : va_D A [(h0, .inr (6, [.ref h2, .ref h3, .ref j0, .ref h1, .int 0, .int 0, .int (-1)])), (h3, .inl (k1, 1201, .inr (.inl f4))), (h1, .inl (k0, 4000, .inl (fun _ => 0))), (h2, .inr (5, [.int 5, .int 1201, .ref h4, .int 1])), (h4, .inl (k2, 6005, .inl (upd (upd (upd (upd (upd (upd (upd (upd (fun _ => 0) (0 : Int32).toNatClampNeg (-1)) (1 : Int32).toNatClampNeg (-1)) (2 : Int32).toNatClampNeg (-1)) (3 : Int32).toNatClampNeg (-1)) (4 : Int32).toNatClampNeg (-1)) (0 : Int32).toNatClampNeg 37) (1 : Int32).toNatClampNeg 0) (2 : Int32).toNatClampNeg 0)))] := hD
  have hK : va_K (dC, dI) vC [(k1, .long), (k0, .byte), (k2, .int)] s := hK
  have hpo : r3 = 1 := hpo
  subst hpo
  refine lv_istore_n (lv' := [(3, .int 1), (5, .int 0), (4, .int 1), (0, .ref h0), (1, .ref h1), (2, .int 0)]) hx hb dX10_scan_54 rfl hl (by decide) rfl (fun ls hl => ?_)
  refine lv_aload_n hx hb dX10_scan_55 rfl (lv_at hl 3 rfl) ?_
  refine va_get (D := (dC, dI)) (ci := 6) (v := .ref h2) (C := RX10) (T := TX10) (N := 7) hx hb hw inX10 hown hK hP 0 rfl rfl 0 (by decide) (hw _ mP_183) (fun _ h9 => h9) rfl dX10_scan_56 ?_
  refine lv_iload hx hb dX10_scan_59 (lv_at hl 1 rfl) ?_
  refine lv_iconst (v := 0) hx hb dX10_scan_61 (by decide) ?_
  have hPc := hP.sub (ws' := [(h2, .inr (5, [.int 5, .int 1201, .ref h4, .int 1])), (h4, .inl (k2, 6005, .inl (upd (upd (upd (upd (upd (upd (upd (upd (fun _ => 0) (0 : Int32).toNatClampNeg (-1)) (1 : Int32).toNatClampNeg (-1)) (2 : Int32).toNatClampNeg (-1)) (3 : Int32).toNatClampNeg (-1)) (4 : Int32).toNatClampNeg (-1)) (0 : Int32).toNatClampNeg 37) (1 : Int32).toNatClampNeg 0) (2 : Int32).toNatClampNeg 0)))]) [3, 4] rfl
  have hDc := hD.sub (ws' := [(h2, .inr (5, [.int 5, .int 1201, .ref h4, .int 1])), (h4, .inl (k2, 6005, .inl (upd (upd (upd (upd (upd (upd (upd (upd (fun _ => 0) (0 : Int32).toNatClampNeg (-1)) (1 : Int32).toNatClampNeg (-1)) (2 : Int32).toNatClampNeg (-1)) (3 : Int32).toNatClampNeg (-1)) (4 : Int32).toNatClampNeg (-1)) (0 : Int32).toNatClampNeg 37) (1 : Int32).toNatClampNeg 0) (2 : Int32).toNatClampNeg 0)))]) [3, 4] (by decide) rfl
  have hKc := hK.sub (tys' := [(k2, .int)]) [2] rfl
  have hFc := va_free (wc := [(h2, .inr (5, [.int 5, .int 1201, .ref h4, .int 1])), (h4, .inl (k2, 6005, .inl (upd (upd (upd (upd (upd (upd (upd (upd (fun _ => 0) (0 : Int32).toNatClampNeg (-1)) (1 : Int32).toNatClampNeg (-1)) (2 : Int32).toNatClampNeg (-1)) (3 : Int32).toNatClampNeg (-1)) (4 : Int32).toNatClampNeg (-1)) (0 : Int32).toNatClampNeg 37) (1 : Int32).toNatClampNeg 0) (2 : Int32).toNatClampNeg 0)))]) hD hS hA [3, 4] rfl
  refine va_calli (va_runV (As := [.int 0, .int 0]) (rest := []) ⟨hx, hb, hml, hown, hw⟩ (tX9_at_n1 l dC dI h2 h4 H.size k2) ⟨callB_of 2 hw (gd mP_305) rfl rfl rfl (hw _ mP_171) (hw _ mP_306) hdX9_at ⟨Nat.le_of_ble_eq_true rfl, Nat.le_of_ble_eq_true rfl⟩, (hw _ mP_307), (hw _ mP_308)⟩ ⟨fbz, va_recv hKc hPc (ci := 5) (q0 := 0) rfl rfl, prz hPc hKc hDc⟩ rfl rfl hl.1 rfl (lv_room (Nat.le_of_ble_eq_true rfl)) dX10_scan_62 ⟨Nat.le_of_ble_eq_true rfl, Nat.le_of_ble_eq_true rfl⟩) hS (fun q _ h => hFc q h) hFc (fun r5 u5 t H1 locs ht hvm hpo hB hz1 hk1 hS => ?_)
  obtain ⟨hP1, hK1, hD1⟩ := hB
  rw [ht] at hP1
  have hK1 := va_K.moved hvm.symm hK1
  obtain ⟨hP, hD⟩ := va_join (wr := [(h0, .inr (6, [.ref h2, .ref h3, .ref j0, .ref h1, .int 0, .int 0, .int (-1)])), (h3, .inl (k1, 1201, .inr (.inl f4))), (h1, .inl (k0, 4000, .inl (fun _ => 0)))]) (w1 := [(h2, .inr (5, [.int 5, .int 1201, .ref h4, .int 1])), (h4, .inl (k2, 6005, .inl (upd (upd (upd (upd (upd (upd (upd (upd (fun _ => 0) (0 : Int32).toNatClampNeg (-1)) (1 : Int32).toNatClampNeg (-1)) (2 : Int32).toNatClampNeg (-1)) (3 : Int32).toNatClampNeg (-1)) (4 : Int32).toNatClampNeg (-1)) (0 : Int32).toNatClampNeg 37) (1 : Int32).toNatClampNeg 0) (2 : Int32).toNatClampNeg 0)))]) hP hD [3, 4] [0, 1, 2] rfl rfl (by decide) (by decide) hk1 hFc hP1 hD1
  have hK := (hK.sub (tys' := [(k1, .long), (k0, .byte)]) [0, 1] rfl).app hK1
  generalize H1 = H at hP hS ⊢
  have hP : va_P (dC, dI) vC [(h0, .inr (6, [.ref h2, .ref h3, .ref j0, .ref h1, .int 0, .int 0, .int (-1)])), (h3, .inl (k1, 1201, .inr (.inl f4))), (h1, .inl (k0, 4000, .inl (fun _ => 0))), (h2, .inr (5, [.int 5, .int 1201, .ref h4, .int 1])), (h4, .inl (k2, 6005, .inl (upd (upd (upd (upd (upd (upd (upd (upd (fun _ => 0) (0 : Int32).toNatClampNeg (-1)) (1 : Int32).toNatClampNeg (-1)) (2 : Int32).toNatClampNeg (-1)) (3 : Int32).toNatClampNeg (-1)) (4 : Int32).toNatClampNeg (-1)) (0 : Int32).toNatClampNeg 37) (1 : Int32).toNatClampNeg 0) (2 : Int32).toNatClampNeg 0)))] H := hP
  have hD : va_D A [(h0, .inr (6, [.ref h2, .ref h3, .ref j0, .ref h1, .int 0, .int 0, .int (-1)])), (h3, .inl (k1, 1201, .inr (.inl f4))), (h1, .inl (k0, 4000, .inl (fun _ => 0))), (h2, .inr (5, [.int 5, .int 1201, .ref h4, .int 1])), (h4, .inl (k2, 6005, .inl (upd (upd (upd (upd (upd (upd (upd (upd (fun _ => 0) (0 : Int32).toNatClampNeg (-1)) (1 : Int32).toNatClampNeg (-1)) (2 : Int32).toNatClampNeg (-1)) (3 : Int32).toNatClampNeg (-1)) (4 : Int32).toNatClampNeg (-1)) (0 : Int32).toNatClampNeg 37) (1 : Int32).toNatClampNeg 0) (2 : Int32).toNatClampNeg 0)))] := hD
  have hK : va_K (dC, dI) vC [(k1, .long), (k0, .byte), (k2, .int)] s := hK
  have hpo : r5 = 37 := hpo
  subst hpo
  refine lv_istore (lv' := [(6, .int 37), (3, .int 1), (5, .int 0), (4, .int 1), (0, .ref h0), (1, .ref h1), (2, .int 0)]) hx hb dX10_scan_65 hl (by decide) rfl (fun ls hl => ?_)
  refine lv_iload hx hb dX10_scan_67 (lv_at hl 0 rfl) ?_
  refine lv_bipush (v := 37) hx hb dX10_scan_69 (by decide) ?_
  refine lv_icmp_eq (tgt := 85) hx hb dX10_scan_71 (by decide) (fun _ => ?_) (fun c => absurd (by decide +kernel) c)
  refine lv_iconst (v := 0) hx hb dX10_scan_85 (by decide) ?_
  refine lv_istore (lv' := [(4, .int 0), (6, .int 37), (3, .int 1), (5, .int 0), (0, .ref h0), (1, .ref h1), (2, .int 0)]) hx hb dX10_scan_86 hl (by decide) rfl (fun ls hl => ?_)
  refine lv_iinc (v := 1) (lv' := [(5, .int 1), (4, .int 0), (6, .int 37), (3, .int 1), (0, .ref h0), (1, .ref h1), (2, .int 0)]) hx hb dX10_scan_88 hl (k := 3) rfl (by decide +kernel) (by decide) rfl (fun ls hl => ?_)
  refine lv_goto (tgt := 30) hx hb dX10_scan_91 (by decide) ?_
  refine lv_iload hx hb dX10_scan_30 (lv_at hl 0 rfl) ?_
  refine lv_sipush (v := 1200) hx hb dX10_scan_32 (by decide) ?_
  refine lv_icmp_gt (tgt := 94) hx hb dX10_scan_35 (by decide) (fun c => absurd c (by decide +kernel)) (fun _ => ?_)
  refine lv_iload hx hb dX10_scan_38 (lv_at hl 1 rfl) ?_
  refine lv_if_eq (tgt := 94) hx hb dX10_scan_40 (by decide) (fun _ => ?_) (fun c => absurd (by decide +kernel) c)
  refine W.widen (k := 0) (n := 0) (Nat.le_of_ble_eq_true rfl) (Nat.le_of_ble_eq_true rfl) ?_
  exact W.vret hx hb hr (fun t ht hW => ⟨⟨(), rfl, trivial, f4, by rw [ht]; exact hP, va_K.moved hW.alike hK, hD⟩, hS.F ht⟩) hS.2.2 dX10_scan_94
set_option maxHeartbeats 4000000 in
set_option maxRecDepth 100000 in
theorem tX9_cut_n2 (l : Launch) (dC : Nat → ClassId) (dI : Nat → Nat → Nat) (h0 j0 : Nat) (sz : Nat) : Met l yX9_cut (.code yX9_cut cX9_cut 1 none :: wP) ({ frames := 0, cells := 0, slots := 0, locals := 0 }) (Pz dC dI [.ref h0] sz [(h0, .inr (5, [.int 12, .int 30, .ref j0, .int 0]))] []) (va_Qv (fun (_ : Unit) => True) (fun (_ : Unit) (t : State) => va_P (dC, dI) vC [(h0, .inr (5, [.int 12, .int 30, .ref j0, .int 0]))] t.heap ∧ va_K (dC, dI) vC [] t ∧ va_D (va_A [(h0, .inr (5, [.int 12, .int 30, .ref j0, .int 0]))] sz) [(h0, .inr (5, [.int 12, .int 30, .ref j0, .int 0]))]) (va_A [(h0, .inr (5, [.int 12, .int 30, .ref j0, .int 0]))] sz)) 0 0 (va_A [(h0, .inr (5, [.int 12, .int 30, .ref j0, .int 0]))] sz) := by
  refine Met.ofW (cc := cX9_cut) (maxL := 1) (ret := none) (by decide) rfl ?_
  intro p e s m args below meth c s₁ B hml hv
  obtain ⟨rfl, hsz, hP, hK, hD0⟩ := hv
  have hx := B.exec
  have hb := B.bytes
  have hr := B.returns
  have hts := atoms_spec (ws := .code yX9_cut cX9_cut 1 none :: wP) B.pre
  have hw : ∀ w ∈ wP, w.before _ s = true := fun w h => hts w (List.mem_cons_of_mem _ h)
  have hown : s.vm.findClass RX9 = some m.cls := findClass_of_methodNamed B.named
  have hlocks := B.notSynchronized
  subst hsz
  have hD := hD0.self (sz := s.heap.size)
  generalize hAe : va_A [(h0, .inr (5, [.int 12, .int 30, .ref j0, .int 0]))] s.heap.size = A at hD ⊢
  have hA : ∀ q : Nat, s.heap.size ≤ q → A q := fun q h => by rw [← hAe]; exact Or.inr h
  have hS : va_S A s.heap s.heap [] := va_S.rf
  have hP : va_P (dC, dI) vC [(h0, .inr (5, [.int 12, .int 30, .ref j0, .int 0]))] s.heap := hP
  have hl := lv_entry ([.ref h0]) (n := 1) (Nat.le_of_ble_eq_true rfl)
  rw [lg_entry_eq]
  generalize (lg_sl ([.ref h0]) ++ List.replicate (1 - (lg_sl ([.ref h0])).length) Slot.unset).toArray = ls at hl ⊢
  have hl : lv_has ls 1 [(0, .ref h0)] := hl
  refine lv_aload_n hx hb dX9_cut_0 rfl (lv_at hl 0 rfl) ?_
  refine lv_iconst (v := 0) hx hb dX9_cut_1 (by decide) ?_
  refine va_put (D := (dC, dI)) (ci := 5) (v := .int 0) (ty := .int) (C := RX9) (T := TX9) (N := 4) hx hb hw inX9 tyX9 tyX9_ok nmX9 hown hK hP hD hS 0 rfl rfl 3 (by decide) (hw _ mP_263) (fun _ h9 => h9) rfl (tyX9_ok 3 (by decide)) rfl rfl (Nat.le_of_ble_eq_true rfl) dX9_cut_2 (fun H locs hP hD hS => ?_)
  have hP : va_P (dC, dI) vC [(h0, .inr (5, [.int 12, .int 30, .ref j0, .int 0]))] H := hP
  have hD : va_D A [(h0, .inr (5, [.int 12, .int 30, .ref j0, .int 0]))] := hD
  refine W.widen (k := 0) (n := 0) (Nat.le_of_ble_eq_true rfl) (Nat.le_of_ble_eq_true rfl) ?_
  exact W.vret hx hb hr (fun t ht hW => ⟨⟨(), rfl, trivial, by rw [ht]; exact hP, va_K.moved hW.alike hK, hD⟩, hS.F ht⟩) hS.2.2 dX9_cut_5
set_option maxHeartbeats 4000000 in
set_option maxRecDepth 100000 in
theorem tX9_cut_n3 (l : Launch) (dC : Nat → ClassId) (dI : Nat → Nat → Nat) (h0 j0 : Nat) (sz : Nat) : Met l yX9_cut (.code yX9_cut cX9_cut 1 none :: wP) ({ frames := 0, cells := 0, slots := 0, locals := 0 }) (Pz dC dI [.ref h0] sz [(h0, .inr (5, [.int 6, .int 1000, .ref j0, .int 0]))] []) (va_Qv (fun (_ : Unit) => True) (fun (_ : Unit) (t : State) => va_P (dC, dI) vC [(h0, .inr (5, [.int 6, .int 1000, .ref j0, .int 0]))] t.heap ∧ va_K (dC, dI) vC [] t ∧ va_D (va_A [(h0, .inr (5, [.int 6, .int 1000, .ref j0, .int 0]))] sz) [(h0, .inr (5, [.int 6, .int 1000, .ref j0, .int 0]))]) (va_A [(h0, .inr (5, [.int 6, .int 1000, .ref j0, .int 0]))] sz)) 0 0 (va_A [(h0, .inr (5, [.int 6, .int 1000, .ref j0, .int 0]))] sz) := by
  refine Met.ofW (cc := cX9_cut) (maxL := 1) (ret := none) (by decide) rfl ?_
  intro p e s m args below meth c s₁ B hml hv
  obtain ⟨rfl, hsz, hP, hK, hD0⟩ := hv
  have hx := B.exec
  have hb := B.bytes
  have hr := B.returns
  have hts := atoms_spec (ws := .code yX9_cut cX9_cut 1 none :: wP) B.pre
  have hw : ∀ w ∈ wP, w.before _ s = true := fun w h => hts w (List.mem_cons_of_mem _ h)
  have hown : s.vm.findClass RX9 = some m.cls := findClass_of_methodNamed B.named
  have hlocks := B.notSynchronized
  subst hsz
  have hD := hD0.self (sz := s.heap.size)
  generalize hAe : va_A [(h0, .inr (5, [.int 6, .int 1000, .ref j0, .int 0]))] s.heap.size = A at hD ⊢
  have hA : ∀ q : Nat, s.heap.size ≤ q → A q := fun q h => by rw [← hAe]; exact Or.inr h
  have hS : va_S A s.heap s.heap [] := va_S.rf
  have hP : va_P (dC, dI) vC [(h0, .inr (5, [.int 6, .int 1000, .ref j0, .int 0]))] s.heap := hP
  have hl := lv_entry ([.ref h0]) (n := 1) (Nat.le_of_ble_eq_true rfl)
  rw [lg_entry_eq]
  generalize (lg_sl ([.ref h0]) ++ List.replicate (1 - (lg_sl ([.ref h0])).length) Slot.unset).toArray = ls at hl ⊢
  have hl : lv_has ls 1 [(0, .ref h0)] := hl
  refine lv_aload_n hx hb dX9_cut_0 rfl (lv_at hl 0 rfl) ?_
  refine lv_iconst (v := 0) hx hb dX9_cut_1 (by decide) ?_
  refine va_put (D := (dC, dI)) (ci := 5) (v := .int 0) (ty := .int) (C := RX9) (T := TX9) (N := 4) hx hb hw inX9 tyX9 tyX9_ok nmX9 hown hK hP hD hS 0 rfl rfl 3 (by decide) (hw _ mP_263) (fun _ h9 => h9) rfl (tyX9_ok 3 (by decide)) rfl rfl (Nat.le_of_ble_eq_true rfl) dX9_cut_2 (fun H locs hP hD hS => ?_)
  have hP : va_P (dC, dI) vC [(h0, .inr (5, [.int 6, .int 1000, .ref j0, .int 0]))] H := hP
  have hD : va_D A [(h0, .inr (5, [.int 6, .int 1000, .ref j0, .int 0]))] := hD
  refine W.widen (k := 0) (n := 0) (Nat.le_of_ble_eq_true rfl) (Nat.le_of_ble_eq_true rfl) ?_
  exact W.vret hx hb hr (fun t ht hW => ⟨⟨(), rfl, trivial, by rw [ht]; exact hP, va_K.moved hW.alike hK, hD⟩, hS.F ht⟩) hS.2.2 dX9_cut_5
set_option maxHeartbeats 4000000 in
set_option maxRecDepth 100000 in
theorem tX9_cut_n4 (l : Launch) (dC : Nat → ClassId) (dI : Nat → Nat → Nat) (h0 j0 : Nat) (sz : Nat) : Met l yX9_cut (.code yX9_cut cX9_cut 1 none :: wP) ({ frames := 0, cells := 0, slots := 0, locals := 0 }) (Pz dC dI [.ref h0] sz [(h0, .inr (5, [.int 4, .int 150, .ref j0, .int 0]))] []) (va_Qv (fun (_ : Unit) => True) (fun (_ : Unit) (t : State) => va_P (dC, dI) vC [(h0, .inr (5, [.int 4, .int 150, .ref j0, .int 0]))] t.heap ∧ va_K (dC, dI) vC [] t ∧ va_D (va_A [(h0, .inr (5, [.int 4, .int 150, .ref j0, .int 0]))] sz) [(h0, .inr (5, [.int 4, .int 150, .ref j0, .int 0]))]) (va_A [(h0, .inr (5, [.int 4, .int 150, .ref j0, .int 0]))] sz)) 0 0 (va_A [(h0, .inr (5, [.int 4, .int 150, .ref j0, .int 0]))] sz) := by
  refine Met.ofW (cc := cX9_cut) (maxL := 1) (ret := none) (by decide) rfl ?_
  intro p e s m args below meth c s₁ B hml hv
  obtain ⟨rfl, hsz, hP, hK, hD0⟩ := hv
  have hx := B.exec
  have hb := B.bytes
  have hr := B.returns
  have hts := atoms_spec (ws := .code yX9_cut cX9_cut 1 none :: wP) B.pre
  have hw : ∀ w ∈ wP, w.before _ s = true := fun w h => hts w (List.mem_cons_of_mem _ h)
  have hown : s.vm.findClass RX9 = some m.cls := findClass_of_methodNamed B.named
  have hlocks := B.notSynchronized
  subst hsz
  have hD := hD0.self (sz := s.heap.size)
  generalize hAe : va_A [(h0, .inr (5, [.int 4, .int 150, .ref j0, .int 0]))] s.heap.size = A at hD ⊢
  have hA : ∀ q : Nat, s.heap.size ≤ q → A q := fun q h => by rw [← hAe]; exact Or.inr h
  have hS : va_S A s.heap s.heap [] := va_S.rf
  have hP : va_P (dC, dI) vC [(h0, .inr (5, [.int 4, .int 150, .ref j0, .int 0]))] s.heap := hP
  have hl := lv_entry ([.ref h0]) (n := 1) (Nat.le_of_ble_eq_true rfl)
  rw [lg_entry_eq]
  generalize (lg_sl ([.ref h0]) ++ List.replicate (1 - (lg_sl ([.ref h0])).length) Slot.unset).toArray = ls at hl ⊢
  have hl : lv_has ls 1 [(0, .ref h0)] := hl
  refine lv_aload_n hx hb dX9_cut_0 rfl (lv_at hl 0 rfl) ?_
  refine lv_iconst (v := 0) hx hb dX9_cut_1 (by decide) ?_
  refine va_put (D := (dC, dI)) (ci := 5) (v := .int 0) (ty := .int) (C := RX9) (T := TX9) (N := 4) hx hb hw inX9 tyX9 tyX9_ok nmX9 hown hK hP hD hS 0 rfl rfl 3 (by decide) (hw _ mP_263) (fun _ h9 => h9) rfl (tyX9_ok 3 (by decide)) rfl rfl (Nat.le_of_ble_eq_true rfl) dX9_cut_2 (fun H locs hP hD hS => ?_)
  have hP : va_P (dC, dI) vC [(h0, .inr (5, [.int 4, .int 150, .ref j0, .int 0]))] H := hP
  have hD : va_D A [(h0, .inr (5, [.int 4, .int 150, .ref j0, .int 0]))] := hD
  refine W.widen (k := 0) (n := 0) (Nat.le_of_ble_eq_true rfl) (Nat.le_of_ble_eq_true rfl) ?_
  exact W.vret hx hb hr (fun t ht hW => ⟨⟨(), rfl, trivial, by rw [ht]; exact hP, va_K.moved hW.alike hK, hD⟩, hS.F ht⟩) hS.2.2 dX9_cut_5
set_option maxHeartbeats 4000000 in
set_option maxRecDepth 100000 in
theorem tX9_cut_n5 (l : Launch) (dC : Nat → ClassId) (dI : Nat → Nat → Nat) (h0 j0 : Nat) (sz : Nat) : Met l yX9_cut (.code yX9_cut cX9_cut 1 none :: wP) ({ frames := 0, cells := 0, slots := 0, locals := 0 }) (Pz dC dI [.ref h0] sz [(h0, .inr (5, [.int 4, .int 400, .ref j0, .int 0]))] []) (va_Qv (fun (_ : Unit) => True) (fun (_ : Unit) (t : State) => va_P (dC, dI) vC [(h0, .inr (5, [.int 4, .int 400, .ref j0, .int 0]))] t.heap ∧ va_K (dC, dI) vC [] t ∧ va_D (va_A [(h0, .inr (5, [.int 4, .int 400, .ref j0, .int 0]))] sz) [(h0, .inr (5, [.int 4, .int 400, .ref j0, .int 0]))]) (va_A [(h0, .inr (5, [.int 4, .int 400, .ref j0, .int 0]))] sz)) 0 0 (va_A [(h0, .inr (5, [.int 4, .int 400, .ref j0, .int 0]))] sz) := by
  refine Met.ofW (cc := cX9_cut) (maxL := 1) (ret := none) (by decide) rfl ?_
  intro p e s m args below meth c s₁ B hml hv
  obtain ⟨rfl, hsz, hP, hK, hD0⟩ := hv
  have hx := B.exec
  have hb := B.bytes
  have hr := B.returns
  have hts := atoms_spec (ws := .code yX9_cut cX9_cut 1 none :: wP) B.pre
  have hw : ∀ w ∈ wP, w.before _ s = true := fun w h => hts w (List.mem_cons_of_mem _ h)
  have hown : s.vm.findClass RX9 = some m.cls := findClass_of_methodNamed B.named
  have hlocks := B.notSynchronized
  subst hsz
  have hD := hD0.self (sz := s.heap.size)
  generalize hAe : va_A [(h0, .inr (5, [.int 4, .int 400, .ref j0, .int 0]))] s.heap.size = A at hD ⊢
  have hA : ∀ q : Nat, s.heap.size ≤ q → A q := fun q h => by rw [← hAe]; exact Or.inr h
  have hS : va_S A s.heap s.heap [] := va_S.rf
  have hP : va_P (dC, dI) vC [(h0, .inr (5, [.int 4, .int 400, .ref j0, .int 0]))] s.heap := hP
  have hl := lv_entry ([.ref h0]) (n := 1) (Nat.le_of_ble_eq_true rfl)
  rw [lg_entry_eq]
  generalize (lg_sl ([.ref h0]) ++ List.replicate (1 - (lg_sl ([.ref h0])).length) Slot.unset).toArray = ls at hl ⊢
  have hl : lv_has ls 1 [(0, .ref h0)] := hl
  refine lv_aload_n hx hb dX9_cut_0 rfl (lv_at hl 0 rfl) ?_
  refine lv_iconst (v := 0) hx hb dX9_cut_1 (by decide) ?_
  refine va_put (D := (dC, dI)) (ci := 5) (v := .int 0) (ty := .int) (C := RX9) (T := TX9) (N := 4) hx hb hw inX9 tyX9 tyX9_ok nmX9 hown hK hP hD hS 0 rfl rfl 3 (by decide) (hw _ mP_263) (fun _ h9 => h9) rfl (tyX9_ok 3 (by decide)) rfl rfl (Nat.le_of_ble_eq_true rfl) dX9_cut_2 (fun H locs hP hD hS => ?_)
  have hP : va_P (dC, dI) vC [(h0, .inr (5, [.int 4, .int 400, .ref j0, .int 0]))] H := hP
  have hD : va_D A [(h0, .inr (5, [.int 4, .int 400, .ref j0, .int 0]))] := hD
  refine W.widen (k := 0) (n := 0) (Nat.le_of_ble_eq_true rfl) (Nat.le_of_ble_eq_true rfl) ?_
  exact W.vret hx hb hr (fun t ht hW => ⟨⟨(), rfl, trivial, by rw [ht]; exact hP, va_K.moved hW.alike hK, hD⟩, hS.F ht⟩) hS.2.2 dX9_cut_5
set_option maxHeartbeats 4000000 in
set_option maxRecDepth 100000 in
theorem tX9_cut_n6 (l : Launch) (dC : Nat → ClassId) (dI : Nat → Nat → Nat) (h0 j0 : Nat) (sz : Nat) : Met l yX9_cut (.code yX9_cut cX9_cut 1 none :: wP) ({ frames := 0, cells := 0, slots := 0, locals := 0 }) (Pz dC dI [.ref h0] sz [(h0, .inr (5, [.int 6, .int 500, .ref j0, .int 0]))] []) (va_Qv (fun (_ : Unit) => True) (fun (_ : Unit) (t : State) => va_P (dC, dI) vC [(h0, .inr (5, [.int 6, .int 500, .ref j0, .int 0]))] t.heap ∧ va_K (dC, dI) vC [] t ∧ va_D (va_A [(h0, .inr (5, [.int 6, .int 500, .ref j0, .int 0]))] sz) [(h0, .inr (5, [.int 6, .int 500, .ref j0, .int 0]))]) (va_A [(h0, .inr (5, [.int 6, .int 500, .ref j0, .int 0]))] sz)) 0 0 (va_A [(h0, .inr (5, [.int 6, .int 500, .ref j0, .int 0]))] sz) := by
  refine Met.ofW (cc := cX9_cut) (maxL := 1) (ret := none) (by decide) rfl ?_
  intro p e s m args below meth c s₁ B hml hv
  obtain ⟨rfl, hsz, hP, hK, hD0⟩ := hv
  have hx := B.exec
  have hb := B.bytes
  have hr := B.returns
  have hts := atoms_spec (ws := .code yX9_cut cX9_cut 1 none :: wP) B.pre
  have hw : ∀ w ∈ wP, w.before _ s = true := fun w h => hts w (List.mem_cons_of_mem _ h)
  have hown : s.vm.findClass RX9 = some m.cls := findClass_of_methodNamed B.named
  have hlocks := B.notSynchronized
  subst hsz
  have hD := hD0.self (sz := s.heap.size)
  generalize hAe : va_A [(h0, .inr (5, [.int 6, .int 500, .ref j0, .int 0]))] s.heap.size = A at hD ⊢
  have hA : ∀ q : Nat, s.heap.size ≤ q → A q := fun q h => by rw [← hAe]; exact Or.inr h
  have hS : va_S A s.heap s.heap [] := va_S.rf
  have hP : va_P (dC, dI) vC [(h0, .inr (5, [.int 6, .int 500, .ref j0, .int 0]))] s.heap := hP
  have hl := lv_entry ([.ref h0]) (n := 1) (Nat.le_of_ble_eq_true rfl)
  rw [lg_entry_eq]
  generalize (lg_sl ([.ref h0]) ++ List.replicate (1 - (lg_sl ([.ref h0])).length) Slot.unset).toArray = ls at hl ⊢
  have hl : lv_has ls 1 [(0, .ref h0)] := hl
  refine lv_aload_n hx hb dX9_cut_0 rfl (lv_at hl 0 rfl) ?_
  refine lv_iconst (v := 0) hx hb dX9_cut_1 (by decide) ?_
  refine va_put (D := (dC, dI)) (ci := 5) (v := .int 0) (ty := .int) (C := RX9) (T := TX9) (N := 4) hx hb hw inX9 tyX9 tyX9_ok nmX9 hown hK hP hD hS 0 rfl rfl 3 (by decide) (hw _ mP_263) (fun _ h9 => h9) rfl (tyX9_ok 3 (by decide)) rfl rfl (Nat.le_of_ble_eq_true rfl) dX9_cut_2 (fun H locs hP hD hS => ?_)
  have hP : va_P (dC, dI) vC [(h0, .inr (5, [.int 6, .int 500, .ref j0, .int 0]))] H := hP
  have hD : va_D A [(h0, .inr (5, [.int 6, .int 500, .ref j0, .int 0]))] := hD
  refine W.widen (k := 0) (n := 0) (Nat.le_of_ble_eq_true rfl) (Nat.le_of_ble_eq_true rfl) ?_
  exact W.vret hx hb hr (fun t ht hW => ⟨⟨(), rfl, trivial, by rw [ht]; exact hP, va_K.moved hW.alike hK, hD⟩, hS.F ht⟩) hS.2.2 dX9_cut_5
set_option maxHeartbeats 4000000 in
set_option maxRecDepth 100000 in
theorem tX7_reset_n1 (l : Launch) (dC : Nat → ClassId) (dI : Nat → Nat → Nat) (h0 h1 h2 h3 h4 h5 j0 j1 j2 j3 j4 j5 j6 : Nat) (sz : Nat) : Met l yX7_reset (.code yX7_reset cX7_reset 1 none :: wP) ({ frames := 1, cells := 0, slots := 0, locals := 20 }) (Pz dC dI [.ref h0] sz [(h0, .inr (4, [.ref h1, .ref h2, .ref h3, .ref h4, .ref h5, .ref j0, .ref j1, .int 0, .int 0, .int 0, .int 0])), (h1, .inr (5, [.int 12, .int 30, .ref j2, .int 0])), (h2, .inr (5, [.int 6, .int 1000, .ref j3, .int 0])), (h3, .inr (5, [.int 4, .int 150, .ref j4, .int 0])), (h4, .inr (5, [.int 4, .int 400, .ref j5, .int 0])), (h5, .inr (5, [.int 6, .int 500, .ref j6, .int 0]))] []) (va_Qv (fun (_ : Unit) => True) (fun (_ : Unit) (t : State) => va_P (dC, dI) vC [(h0, .inr (4, [.ref h1, .ref h2, .ref h3, .ref h4, .ref h5, .ref j0, .ref j1, .int 0, .int 0, .int 0, .int 0])), (h1, .inr (5, [.int 12, .int 30, .ref j2, .int 0])), (h2, .inr (5, [.int 6, .int 1000, .ref j3, .int 0])), (h3, .inr (5, [.int 4, .int 150, .ref j4, .int 0])), (h4, .inr (5, [.int 4, .int 400, .ref j5, .int 0])), (h5, .inr (5, [.int 6, .int 500, .ref j6, .int 0]))] t.heap ∧ va_K (dC, dI) vC [] t ∧ va_D (va_A [(h0, .inr (4, [.ref h1, .ref h2, .ref h3, .ref h4, .ref h5, .ref j0, .ref j1, .int 0, .int 0, .int 0, .int 0])), (h1, .inr (5, [.int 12, .int 30, .ref j2, .int 0])), (h2, .inr (5, [.int 6, .int 1000, .ref j3, .int 0])), (h3, .inr (5, [.int 4, .int 150, .ref j4, .int 0])), (h4, .inr (5, [.int 4, .int 400, .ref j5, .int 0])), (h5, .inr (5, [.int 6, .int 500, .ref j6, .int 0]))] sz) [(h0, .inr (4, [.ref h1, .ref h2, .ref h3, .ref h4, .ref h5, .ref j0, .ref j1, .int 0, .int 0, .int 0, .int 0])), (h1, .inr (5, [.int 12, .int 30, .ref j2, .int 0])), (h2, .inr (5, [.int 6, .int 1000, .ref j3, .int 0])), (h3, .inr (5, [.int 4, .int 150, .ref j4, .int 0])), (h4, .inr (5, [.int 4, .int 400, .ref j5, .int 0])), (h5, .inr (5, [.int 6, .int 500, .ref j6, .int 0]))]) (va_A [(h0, .inr (4, [.ref h1, .ref h2, .ref h3, .ref h4, .ref h5, .ref j0, .ref j1, .int 0, .int 0, .int 0, .int 0])), (h1, .inr (5, [.int 12, .int 30, .ref j2, .int 0])), (h2, .inr (5, [.int 6, .int 1000, .ref j3, .int 0])), (h3, .inr (5, [.int 4, .int 150, .ref j4, .int 0])), (h4, .inr (5, [.int 4, .int 400, .ref j5, .int 0])), (h5, .inr (5, [.int 6, .int 500, .ref j6, .int 0]))] sz)) 0 0 (va_A [(h0, .inr (4, [.ref h1, .ref h2, .ref h3, .ref h4, .ref h5, .ref j0, .ref j1, .int 0, .int 0, .int 0, .int 0])), (h1, .inr (5, [.int 12, .int 30, .ref j2, .int 0])), (h2, .inr (5, [.int 6, .int 1000, .ref j3, .int 0])), (h3, .inr (5, [.int 4, .int 150, .ref j4, .int 0])), (h4, .inr (5, [.int 4, .int 400, .ref j5, .int 0])), (h5, .inr (5, [.int 6, .int 500, .ref j6, .int 0]))] sz) := by
  refine Met.ofW (cc := cX7_reset) (maxL := 1) (ret := none) (by decide) rfl ?_
  intro p e s m args below meth c s₁ B hml hv
  obtain ⟨rfl, hsz, hP, hK, hD0⟩ := hv
  have hx := B.exec
  have hb := B.bytes
  have hr := B.returns
  have hts := atoms_spec (ws := .code yX7_reset cX7_reset 1 none :: wP) B.pre
  have hw : ∀ w ∈ wP, w.before _ s = true := fun w h => hts w (List.mem_cons_of_mem _ h)
  have hown : s.vm.findClass RX7 = some m.cls := findClass_of_methodNamed B.named
  have hlocks := B.notSynchronized
  subst hsz
  have hD := hD0.self (sz := s.heap.size)
  generalize hAe : va_A [(h0, .inr (4, [.ref h1, .ref h2, .ref h3, .ref h4, .ref h5, .ref j0, .ref j1, .int 0, .int 0, .int 0, .int 0])), (h1, .inr (5, [.int 12, .int 30, .ref j2, .int 0])), (h2, .inr (5, [.int 6, .int 1000, .ref j3, .int 0])), (h3, .inr (5, [.int 4, .int 150, .ref j4, .int 0])), (h4, .inr (5, [.int 4, .int 400, .ref j5, .int 0])), (h5, .inr (5, [.int 6, .int 500, .ref j6, .int 0]))] s.heap.size = A at hD ⊢
  have hA : ∀ q : Nat, s.heap.size ≤ q → A q := fun q h => by rw [← hAe]; exact Or.inr h
  have hS : va_S A s.heap s.heap [] := va_S.rf
  have hP : va_P (dC, dI) vC [(h0, .inr (4, [.ref h1, .ref h2, .ref h3, .ref h4, .ref h5, .ref j0, .ref j1, .int 0, .int 0, .int 0, .int 0])), (h1, .inr (5, [.int 12, .int 30, .ref j2, .int 0])), (h2, .inr (5, [.int 6, .int 1000, .ref j3, .int 0])), (h3, .inr (5, [.int 4, .int 150, .ref j4, .int 0])), (h4, .inr (5, [.int 4, .int 400, .ref j5, .int 0])), (h5, .inr (5, [.int 6, .int 500, .ref j6, .int 0]))] s.heap := hP
  have hl := lv_entry ([.ref h0]) (n := 1) (Nat.le_of_ble_eq_true rfl)
  rw [lg_entry_eq]
  generalize (lg_sl ([.ref h0]) ++ List.replicate (1 - (lg_sl ([.ref h0])).length) Slot.unset).toArray = ls at hl ⊢
  have hl : lv_has ls 1 [(0, .ref h0)] := hl
  refine lv_aload_n hx hb dX7_reset_0 rfl (lv_at hl 0 rfl) ?_
  refine va_get (D := (dC, dI)) (ci := 4) (v := .ref h1) (C := RX7) (T := TX7) (N := 11) hx hb hw inX7 hown hK hP 0 rfl rfl 0 (by decide) (hw _ mP_227) (fun _ h9 => h9) rfl dX7_reset_1 ?_
  have hPc := hP.sub (ws' := [(h1, .inr (5, [.int 12, .int 30, .ref j2, .int 0]))]) [1] rfl
  have hDc := hD.sub (ws' := [(h1, .inr (5, [.int 12, .int 30, .ref j2, .int 0]))]) [1] (by decide) rfl
  have hKc := hK.sub (tys' := []) [] rfl
  have hFc := va_free (wc := [(h1, .inr (5, [.int 12, .int 30, .ref j2, .int 0]))]) hD hS hA [1] rfl
  refine va_callv (va_runV (As := []) (rest := []) ⟨hx, hb, hml, hown, hw⟩ (tX9_cut_n2 l dC dI h1 j2 s.heap.size) ⟨callB_of 0 hw (gd mP_264) rfl rfl rfl (hw _ mP_171) (hw _ mP_314) hdX9_cut ⟨Nat.le_of_ble_eq_true rfl, Nat.le_of_ble_eq_true rfl⟩, (hw _ mP_266), (hw _ mP_267)⟩ ⟨fbz, va_recv hKc hPc (ci := 5) (q0 := 0) rfl rfl, prz hPc hKc hDc⟩ rfl rfl hl.1 rfl (lv_room (Nat.le_of_ble_eq_true rfl)) dX7_reset_4 ⟨Nat.le_of_ble_eq_true rfl, Nat.le_of_ble_eq_true rfl⟩) hS (fun q _ h => hFc q h) hFc (fun u1 t H1 locs ht hvm hpo hB hz1 hk1 hS => ?_)
  obtain ⟨hP1, hK1, hD1⟩ := hB
  rw [ht] at hP1
  have hK1 := va_K.moved hvm.symm hK1
  obtain ⟨hP, hD⟩ := va_join (wr := [(h0, .inr (4, [.ref h1, .ref h2, .ref h3, .ref h4, .ref h5, .ref j0, .ref j1, .int 0, .int 0, .int 0, .int 0])), (h2, .inr (5, [.int 6, .int 1000, .ref j3, .int 0])), (h3, .inr (5, [.int 4, .int 150, .ref j4, .int 0])), (h4, .inr (5, [.int 4, .int 400, .ref j5, .int 0])), (h5, .inr (5, [.int 6, .int 500, .ref j6, .int 0]))]) (w1 := [(h1, .inr (5, [.int 12, .int 30, .ref j2, .int 0]))]) hP hD [1] [0, 2, 3, 4, 5] rfl rfl (by decide) (by decide) hk1 hFc hP1 hD1
  have hK := (hK.sub (tys' := []) [] rfl).app hK1
  generalize H1 = H at hP hS ⊢
  have hP : va_P (dC, dI) vC [(h0, .inr (4, [.ref h1, .ref h2, .ref h3, .ref h4, .ref h5, .ref j0, .ref j1, .int 0, .int 0, .int 0, .int 0])), (h2, .inr (5, [.int 6, .int 1000, .ref j3, .int 0])), (h3, .inr (5, [.int 4, .int 150, .ref j4, .int 0])), (h4, .inr (5, [.int 4, .int 400, .ref j5, .int 0])), (h5, .inr (5, [.int 6, .int 500, .ref j6, .int 0])), (h1, .inr (5, [.int 12, .int 30, .ref j2, .int 0]))] H := hP
  have hD : va_D A [(h0, .inr (4, [.ref h1, .ref h2, .ref h3, .ref h4, .ref h5, .ref j0, .ref j1, .int 0, .int 0, .int 0, .int 0])), (h2, .inr (5, [.int 6, .int 1000, .ref j3, .int 0])), (h3, .inr (5, [.int 4, .int 150, .ref j4, .int 0])), (h4, .inr (5, [.int 4, .int 400, .ref j5, .int 0])), (h5, .inr (5, [.int 6, .int 500, .ref j6, .int 0])), (h1, .inr (5, [.int 12, .int 30, .ref j2, .int 0]))] := hD
  have hK : va_K (dC, dI) vC [] s := hK
  refine lv_aload_n hx hb dX7_reset_7 rfl (lv_at hl 0 rfl) ?_
  refine va_get (D := (dC, dI)) (ci := 4) (v := .ref h2) (C := RX7) (T := TX7) (N := 11) hx hb hw inX7 hown hK hP 0 rfl rfl 1 (by decide) (hw _ mP_228) (fun _ h9 => h9) rfl dX7_reset_8 ?_
  have hPc := hP.sub (ws' := [(h2, .inr (5, [.int 6, .int 1000, .ref j3, .int 0]))]) [1] rfl
  have hDc := hD.sub (ws' := [(h2, .inr (5, [.int 6, .int 1000, .ref j3, .int 0]))]) [1] (by decide) rfl
  have hKc := hK.sub (tys' := []) [] rfl
  have hFc := va_free (wc := [(h2, .inr (5, [.int 6, .int 1000, .ref j3, .int 0]))]) hD hS hA [1] rfl
  refine va_callv (va_runV (As := []) (rest := []) ⟨hx, hb, hml, hown, hw⟩ (tX9_cut_n3 l dC dI h2 j3 H.size) ⟨callB_of 0 hw (gd mP_264) rfl rfl rfl (hw _ mP_171) (hw _ mP_314) hdX9_cut ⟨Nat.le_of_ble_eq_true rfl, Nat.le_of_ble_eq_true rfl⟩, (hw _ mP_266), (hw _ mP_267)⟩ ⟨fbz, va_recv hKc hPc (ci := 5) (q0 := 0) rfl rfl, prz hPc hKc hDc⟩ rfl rfl hl.1 rfl (lv_room (Nat.le_of_ble_eq_true rfl)) dX7_reset_11 ⟨Nat.le_of_ble_eq_true rfl, Nat.le_of_ble_eq_true rfl⟩) hS (fun q _ h => hFc q h) hFc (fun u2 t H1 locs ht hvm hpo hB hz1 hk1 hS => ?_)
  obtain ⟨hP1, hK1, hD1⟩ := hB
  rw [ht] at hP1
  have hK1 := va_K.moved hvm.symm hK1
  obtain ⟨hP, hD⟩ := va_join (wr := [(h0, .inr (4, [.ref h1, .ref h2, .ref h3, .ref h4, .ref h5, .ref j0, .ref j1, .int 0, .int 0, .int 0, .int 0])), (h3, .inr (5, [.int 4, .int 150, .ref j4, .int 0])), (h4, .inr (5, [.int 4, .int 400, .ref j5, .int 0])), (h5, .inr (5, [.int 6, .int 500, .ref j6, .int 0])), (h1, .inr (5, [.int 12, .int 30, .ref j2, .int 0]))]) (w1 := [(h2, .inr (5, [.int 6, .int 1000, .ref j3, .int 0]))]) hP hD [1] [0, 2, 3, 4, 5] rfl rfl (by decide) (by decide) hk1 hFc hP1 hD1
  have hK := (hK.sub (tys' := []) [] rfl).app hK1
  generalize H1 = H at hP hS ⊢
  have hP : va_P (dC, dI) vC [(h0, .inr (4, [.ref h1, .ref h2, .ref h3, .ref h4, .ref h5, .ref j0, .ref j1, .int 0, .int 0, .int 0, .int 0])), (h3, .inr (5, [.int 4, .int 150, .ref j4, .int 0])), (h4, .inr (5, [.int 4, .int 400, .ref j5, .int 0])), (h5, .inr (5, [.int 6, .int 500, .ref j6, .int 0])), (h1, .inr (5, [.int 12, .int 30, .ref j2, .int 0])), (h2, .inr (5, [.int 6, .int 1000, .ref j3, .int 0]))] H := hP
  have hD : va_D A [(h0, .inr (4, [.ref h1, .ref h2, .ref h3, .ref h4, .ref h5, .ref j0, .ref j1, .int 0, .int 0, .int 0, .int 0])), (h3, .inr (5, [.int 4, .int 150, .ref j4, .int 0])), (h4, .inr (5, [.int 4, .int 400, .ref j5, .int 0])), (h5, .inr (5, [.int 6, .int 500, .ref j6, .int 0])), (h1, .inr (5, [.int 12, .int 30, .ref j2, .int 0])), (h2, .inr (5, [.int 6, .int 1000, .ref j3, .int 0]))] := hD
  have hK : va_K (dC, dI) vC [] s := hK
  refine lv_aload_n hx hb dX7_reset_14 rfl (lv_at hl 0 rfl) ?_
  refine va_get (D := (dC, dI)) (ci := 4) (v := .ref h3) (C := RX7) (T := TX7) (N := 11) hx hb hw inX7 hown hK hP 0 rfl rfl 2 (by decide) (hw _ mP_229) (fun _ h9 => h9) rfl dX7_reset_15 ?_
  have hPc := hP.sub (ws' := [(h3, .inr (5, [.int 4, .int 150, .ref j4, .int 0]))]) [1] rfl
  have hDc := hD.sub (ws' := [(h3, .inr (5, [.int 4, .int 150, .ref j4, .int 0]))]) [1] (by decide) rfl
  have hKc := hK.sub (tys' := []) [] rfl
  have hFc := va_free (wc := [(h3, .inr (5, [.int 4, .int 150, .ref j4, .int 0]))]) hD hS hA [1] rfl
  refine va_callv (va_runV (As := []) (rest := []) ⟨hx, hb, hml, hown, hw⟩ (tX9_cut_n4 l dC dI h3 j4 H.size) ⟨callB_of 0 hw (gd mP_264) rfl rfl rfl (hw _ mP_171) (hw _ mP_314) hdX9_cut ⟨Nat.le_of_ble_eq_true rfl, Nat.le_of_ble_eq_true rfl⟩, (hw _ mP_266), (hw _ mP_267)⟩ ⟨fbz, va_recv hKc hPc (ci := 5) (q0 := 0) rfl rfl, prz hPc hKc hDc⟩ rfl rfl hl.1 rfl (lv_room (Nat.le_of_ble_eq_true rfl)) dX7_reset_18 ⟨Nat.le_of_ble_eq_true rfl, Nat.le_of_ble_eq_true rfl⟩) hS (fun q _ h => hFc q h) hFc (fun u3 t H1 locs ht hvm hpo hB hz1 hk1 hS => ?_)
  obtain ⟨hP1, hK1, hD1⟩ := hB
  rw [ht] at hP1
  have hK1 := va_K.moved hvm.symm hK1
  obtain ⟨hP, hD⟩ := va_join (wr := [(h0, .inr (4, [.ref h1, .ref h2, .ref h3, .ref h4, .ref h5, .ref j0, .ref j1, .int 0, .int 0, .int 0, .int 0])), (h4, .inr (5, [.int 4, .int 400, .ref j5, .int 0])), (h5, .inr (5, [.int 6, .int 500, .ref j6, .int 0])), (h1, .inr (5, [.int 12, .int 30, .ref j2, .int 0])), (h2, .inr (5, [.int 6, .int 1000, .ref j3, .int 0]))]) (w1 := [(h3, .inr (5, [.int 4, .int 150, .ref j4, .int 0]))]) hP hD [1] [0, 2, 3, 4, 5] rfl rfl (by decide) (by decide) hk1 hFc hP1 hD1
  have hK := (hK.sub (tys' := []) [] rfl).app hK1
  generalize H1 = H at hP hS ⊢
  have hP : va_P (dC, dI) vC [(h0, .inr (4, [.ref h1, .ref h2, .ref h3, .ref h4, .ref h5, .ref j0, .ref j1, .int 0, .int 0, .int 0, .int 0])), (h4, .inr (5, [.int 4, .int 400, .ref j5, .int 0])), (h5, .inr (5, [.int 6, .int 500, .ref j6, .int 0])), (h1, .inr (5, [.int 12, .int 30, .ref j2, .int 0])), (h2, .inr (5, [.int 6, .int 1000, .ref j3, .int 0])), (h3, .inr (5, [.int 4, .int 150, .ref j4, .int 0]))] H := hP
  have hD : va_D A [(h0, .inr (4, [.ref h1, .ref h2, .ref h3, .ref h4, .ref h5, .ref j0, .ref j1, .int 0, .int 0, .int 0, .int 0])), (h4, .inr (5, [.int 4, .int 400, .ref j5, .int 0])), (h5, .inr (5, [.int 6, .int 500, .ref j6, .int 0])), (h1, .inr (5, [.int 12, .int 30, .ref j2, .int 0])), (h2, .inr (5, [.int 6, .int 1000, .ref j3, .int 0])), (h3, .inr (5, [.int 4, .int 150, .ref j4, .int 0]))] := hD
  have hK : va_K (dC, dI) vC [] s := hK
  refine lv_aload_n hx hb dX7_reset_21 rfl (lv_at hl 0 rfl) ?_
  refine va_get (D := (dC, dI)) (ci := 4) (v := .ref h4) (C := RX7) (T := TX7) (N := 11) hx hb hw inX7 hown hK hP 0 rfl rfl 3 (by decide) (hw _ mP_230) (fun _ h9 => h9) rfl dX7_reset_22 ?_
  have hPc := hP.sub (ws' := [(h4, .inr (5, [.int 4, .int 400, .ref j5, .int 0]))]) [1] rfl
  have hDc := hD.sub (ws' := [(h4, .inr (5, [.int 4, .int 400, .ref j5, .int 0]))]) [1] (by decide) rfl
  have hKc := hK.sub (tys' := []) [] rfl
  have hFc := va_free (wc := [(h4, .inr (5, [.int 4, .int 400, .ref j5, .int 0]))]) hD hS hA [1] rfl
  refine va_callv (va_runV (As := []) (rest := []) ⟨hx, hb, hml, hown, hw⟩ (tX9_cut_n5 l dC dI h4 j5 H.size) ⟨callB_of 0 hw (gd mP_264) rfl rfl rfl (hw _ mP_171) (hw _ mP_314) hdX9_cut ⟨Nat.le_of_ble_eq_true rfl, Nat.le_of_ble_eq_true rfl⟩, (hw _ mP_266), (hw _ mP_267)⟩ ⟨fbz, va_recv hKc hPc (ci := 5) (q0 := 0) rfl rfl, prz hPc hKc hDc⟩ rfl rfl hl.1 rfl (lv_room (Nat.le_of_ble_eq_true rfl)) dX7_reset_25 ⟨Nat.le_of_ble_eq_true rfl, Nat.le_of_ble_eq_true rfl⟩) hS (fun q _ h => hFc q h) hFc (fun u4 t H1 locs ht hvm hpo hB hz1 hk1 hS => ?_)
  obtain ⟨hP1, hK1, hD1⟩ := hB
  rw [ht] at hP1
  have hK1 := va_K.moved hvm.symm hK1
  obtain ⟨hP, hD⟩ := va_join (wr := [(h0, .inr (4, [.ref h1, .ref h2, .ref h3, .ref h4, .ref h5, .ref j0, .ref j1, .int 0, .int 0, .int 0, .int 0])), (h5, .inr (5, [.int 6, .int 500, .ref j6, .int 0])), (h1, .inr (5, [.int 12, .int 30, .ref j2, .int 0])), (h2, .inr (5, [.int 6, .int 1000, .ref j3, .int 0])), (h3, .inr (5, [.int 4, .int 150, .ref j4, .int 0]))]) (w1 := [(h4, .inr (5, [.int 4, .int 400, .ref j5, .int 0]))]) hP hD [1] [0, 2, 3, 4, 5] rfl rfl (by decide) (by decide) hk1 hFc hP1 hD1
  have hK := (hK.sub (tys' := []) [] rfl).app hK1
  generalize H1 = H at hP hS ⊢
  have hP : va_P (dC, dI) vC [(h0, .inr (4, [.ref h1, .ref h2, .ref h3, .ref h4, .ref h5, .ref j0, .ref j1, .int 0, .int 0, .int 0, .int 0])), (h5, .inr (5, [.int 6, .int 500, .ref j6, .int 0])), (h1, .inr (5, [.int 12, .int 30, .ref j2, .int 0])), (h2, .inr (5, [.int 6, .int 1000, .ref j3, .int 0])), (h3, .inr (5, [.int 4, .int 150, .ref j4, .int 0])), (h4, .inr (5, [.int 4, .int 400, .ref j5, .int 0]))] H := hP
  have hD : va_D A [(h0, .inr (4, [.ref h1, .ref h2, .ref h3, .ref h4, .ref h5, .ref j0, .ref j1, .int 0, .int 0, .int 0, .int 0])), (h5, .inr (5, [.int 6, .int 500, .ref j6, .int 0])), (h1, .inr (5, [.int 12, .int 30, .ref j2, .int 0])), (h2, .inr (5, [.int 6, .int 1000, .ref j3, .int 0])), (h3, .inr (5, [.int 4, .int 150, .ref j4, .int 0])), (h4, .inr (5, [.int 4, .int 400, .ref j5, .int 0]))] := hD
  have hK : va_K (dC, dI) vC [] s := hK
  refine lv_aload_n hx hb dX7_reset_28 rfl (lv_at hl 0 rfl) ?_
  refine va_get (D := (dC, dI)) (ci := 4) (v := .ref h5) (C := RX7) (T := TX7) (N := 11) hx hb hw inX7 hown hK hP 0 rfl rfl 4 (by decide) (hw _ mP_231) (fun _ h9 => h9) rfl dX7_reset_29 ?_
  have hPc := hP.sub (ws' := [(h5, .inr (5, [.int 6, .int 500, .ref j6, .int 0]))]) [1] rfl
  have hDc := hD.sub (ws' := [(h5, .inr (5, [.int 6, .int 500, .ref j6, .int 0]))]) [1] (by decide) rfl
  have hKc := hK.sub (tys' := []) [] rfl
  have hFc := va_free (wc := [(h5, .inr (5, [.int 6, .int 500, .ref j6, .int 0]))]) hD hS hA [1] rfl
  refine va_callv (va_runV (As := []) (rest := []) ⟨hx, hb, hml, hown, hw⟩ (tX9_cut_n6 l dC dI h5 j6 H.size) ⟨callB_of 0 hw (gd mP_264) rfl rfl rfl (hw _ mP_171) (hw _ mP_314) hdX9_cut ⟨Nat.le_of_ble_eq_true rfl, Nat.le_of_ble_eq_true rfl⟩, (hw _ mP_266), (hw _ mP_267)⟩ ⟨fbz, va_recv hKc hPc (ci := 5) (q0 := 0) rfl rfl, prz hPc hKc hDc⟩ rfl rfl hl.1 rfl (lv_room (Nat.le_of_ble_eq_true rfl)) dX7_reset_32 ⟨Nat.le_of_ble_eq_true rfl, Nat.le_of_ble_eq_true rfl⟩) hS (fun q _ h => hFc q h) hFc (fun u5 t H1 locs ht hvm hpo hB hz1 hk1 hS => ?_)
  obtain ⟨hP1, hK1, hD1⟩ := hB
  rw [ht] at hP1
  have hK1 := va_K.moved hvm.symm hK1
  obtain ⟨hP, hD⟩ := va_join (wr := [(h0, .inr (4, [.ref h1, .ref h2, .ref h3, .ref h4, .ref h5, .ref j0, .ref j1, .int 0, .int 0, .int 0, .int 0])), (h1, .inr (5, [.int 12, .int 30, .ref j2, .int 0])), (h2, .inr (5, [.int 6, .int 1000, .ref j3, .int 0])), (h3, .inr (5, [.int 4, .int 150, .ref j4, .int 0])), (h4, .inr (5, [.int 4, .int 400, .ref j5, .int 0]))]) (w1 := [(h5, .inr (5, [.int 6, .int 500, .ref j6, .int 0]))]) hP hD [1] [0, 2, 3, 4, 5] rfl rfl (by decide) (by decide) hk1 hFc hP1 hD1
  have hK := (hK.sub (tys' := []) [] rfl).app hK1
  generalize H1 = H at hP hS ⊢
  have hP : va_P (dC, dI) vC [(h0, .inr (4, [.ref h1, .ref h2, .ref h3, .ref h4, .ref h5, .ref j0, .ref j1, .int 0, .int 0, .int 0, .int 0])), (h1, .inr (5, [.int 12, .int 30, .ref j2, .int 0])), (h2, .inr (5, [.int 6, .int 1000, .ref j3, .int 0])), (h3, .inr (5, [.int 4, .int 150, .ref j4, .int 0])), (h4, .inr (5, [.int 4, .int 400, .ref j5, .int 0])), (h5, .inr (5, [.int 6, .int 500, .ref j6, .int 0]))] H := hP
  have hD : va_D A [(h0, .inr (4, [.ref h1, .ref h2, .ref h3, .ref h4, .ref h5, .ref j0, .ref j1, .int 0, .int 0, .int 0, .int 0])), (h1, .inr (5, [.int 12, .int 30, .ref j2, .int 0])), (h2, .inr (5, [.int 6, .int 1000, .ref j3, .int 0])), (h3, .inr (5, [.int 4, .int 150, .ref j4, .int 0])), (h4, .inr (5, [.int 4, .int 400, .ref j5, .int 0])), (h5, .inr (5, [.int 6, .int 500, .ref j6, .int 0]))] := hD
  have hK : va_K (dC, dI) vC [] s := hK
  refine lv_aload_n hx hb dX7_reset_35 rfl (lv_at hl 0 rfl) ?_
  refine lv_iconst (v := 0) hx hb dX7_reset_36 (by decide) ?_
  refine va_put (D := (dC, dI)) (ci := 4) (v := .int 0) (ty := .int) (C := RX7) (T := TX7) (N := 11) hx hb hw inX7 tyX7 tyX7_ok nmX7 hown hK hP hD hS 0 rfl rfl 7 (by decide) (hw _ mP_315) (fun _ h9 => h9) rfl (tyX7_ok 7 (by decide)) rfl rfl (Nat.le_of_ble_eq_true rfl) dX7_reset_37 (fun H locs hP hD hS => ?_)
  have hP : va_P (dC, dI) vC [(h0, .inr (4, [.ref h1, .ref h2, .ref h3, .ref h4, .ref h5, .ref j0, .ref j1, .int 0, .int 0, .int 0, .int 0])), (h1, .inr (5, [.int 12, .int 30, .ref j2, .int 0])), (h2, .inr (5, [.int 6, .int 1000, .ref j3, .int 0])), (h3, .inr (5, [.int 4, .int 150, .ref j4, .int 0])), (h4, .inr (5, [.int 4, .int 400, .ref j5, .int 0])), (h5, .inr (5, [.int 6, .int 500, .ref j6, .int 0]))] H := hP
  have hD : va_D A [(h0, .inr (4, [.ref h1, .ref h2, .ref h3, .ref h4, .ref h5, .ref j0, .ref j1, .int 0, .int 0, .int 0, .int 0])), (h1, .inr (5, [.int 12, .int 30, .ref j2, .int 0])), (h2, .inr (5, [.int 6, .int 1000, .ref j3, .int 0])), (h3, .inr (5, [.int 4, .int 150, .ref j4, .int 0])), (h4, .inr (5, [.int 4, .int 400, .ref j5, .int 0])), (h5, .inr (5, [.int 6, .int 500, .ref j6, .int 0]))] := hD
  refine lv_aload_n hx hb dX7_reset_40 rfl (lv_at hl 0 rfl) ?_
  refine lv_iconst (v := 0) hx hb dX7_reset_41 (by decide) ?_
  refine va_put (D := (dC, dI)) (ci := 4) (v := .int 0) (ty := .int) (C := RX7) (T := TX7) (N := 11) hx hb hw inX7 tyX7 tyX7_ok nmX7 hown hK hP hD hS 0 rfl rfl 8 (by decide) (hw _ mP_316) (fun _ h9 => h9) rfl (tyX7_ok 8 (by decide)) rfl rfl (Nat.le_of_ble_eq_true rfl) dX7_reset_42 (fun H locs hP hD hS => ?_)
  have hP : va_P (dC, dI) vC [(h0, .inr (4, [.ref h1, .ref h2, .ref h3, .ref h4, .ref h5, .ref j0, .ref j1, .int 0, .int 0, .int 0, .int 0])), (h1, .inr (5, [.int 12, .int 30, .ref j2, .int 0])), (h2, .inr (5, [.int 6, .int 1000, .ref j3, .int 0])), (h3, .inr (5, [.int 4, .int 150, .ref j4, .int 0])), (h4, .inr (5, [.int 4, .int 400, .ref j5, .int 0])), (h5, .inr (5, [.int 6, .int 500, .ref j6, .int 0]))] H := hP
  have hD : va_D A [(h0, .inr (4, [.ref h1, .ref h2, .ref h3, .ref h4, .ref h5, .ref j0, .ref j1, .int 0, .int 0, .int 0, .int 0])), (h1, .inr (5, [.int 12, .int 30, .ref j2, .int 0])), (h2, .inr (5, [.int 6, .int 1000, .ref j3, .int 0])), (h3, .inr (5, [.int 4, .int 150, .ref j4, .int 0])), (h4, .inr (5, [.int 4, .int 400, .ref j5, .int 0])), (h5, .inr (5, [.int 6, .int 500, .ref j6, .int 0]))] := hD
  refine lv_aload_n hx hb dX7_reset_45 rfl (lv_at hl 0 rfl) ?_
  refine lv_iconst (v := 0) hx hb dX7_reset_46 (by decide) ?_
  refine va_put (D := (dC, dI)) (ci := 4) (v := .int 0) (ty := .int) (C := RX7) (T := TX7) (N := 11) hx hb hw inX7 tyX7 tyX7_ok nmX7 hown hK hP hD hS 0 rfl rfl 9 (by decide) (hw _ mP_317) (fun _ h9 => h9) rfl (tyX7_ok 9 (by decide)) rfl rfl (Nat.le_of_ble_eq_true rfl) dX7_reset_47 (fun H locs hP hD hS => ?_)
  have hP : va_P (dC, dI) vC [(h0, .inr (4, [.ref h1, .ref h2, .ref h3, .ref h4, .ref h5, .ref j0, .ref j1, .int 0, .int 0, .int 0, .int 0])), (h1, .inr (5, [.int 12, .int 30, .ref j2, .int 0])), (h2, .inr (5, [.int 6, .int 1000, .ref j3, .int 0])), (h3, .inr (5, [.int 4, .int 150, .ref j4, .int 0])), (h4, .inr (5, [.int 4, .int 400, .ref j5, .int 0])), (h5, .inr (5, [.int 6, .int 500, .ref j6, .int 0]))] H := hP
  have hD : va_D A [(h0, .inr (4, [.ref h1, .ref h2, .ref h3, .ref h4, .ref h5, .ref j0, .ref j1, .int 0, .int 0, .int 0, .int 0])), (h1, .inr (5, [.int 12, .int 30, .ref j2, .int 0])), (h2, .inr (5, [.int 6, .int 1000, .ref j3, .int 0])), (h3, .inr (5, [.int 4, .int 150, .ref j4, .int 0])), (h4, .inr (5, [.int 4, .int 400, .ref j5, .int 0])), (h5, .inr (5, [.int 6, .int 500, .ref j6, .int 0]))] := hD
  refine lv_aload_n hx hb dX7_reset_50 rfl (lv_at hl 0 rfl) ?_
  refine lv_iconst (v := 0) hx hb dX7_reset_51 (by decide) ?_
  refine va_put (D := (dC, dI)) (ci := 4) (v := .int 0) (ty := .boolean) (C := RX7) (T := TX7) (N := 11) hx hb hw inX7 tyX7 tyX7_ok nmX7 hown hK hP hD hS 0 rfl rfl 10 (by decide) (hw _ mP_318) (fun _ h9 => h9) rfl (tyX7_ok 10 (by decide)) rfl rfl (Nat.le_of_ble_eq_true rfl) dX7_reset_52 (fun H locs hP hD hS => ?_)
  have hP : va_P (dC, dI) vC [(h0, .inr (4, [.ref h1, .ref h2, .ref h3, .ref h4, .ref h5, .ref j0, .ref j1, .int 0, .int 0, .int 0, .int 0])), (h1, .inr (5, [.int 12, .int 30, .ref j2, .int 0])), (h2, .inr (5, [.int 6, .int 1000, .ref j3, .int 0])), (h3, .inr (5, [.int 4, .int 150, .ref j4, .int 0])), (h4, .inr (5, [.int 4, .int 400, .ref j5, .int 0])), (h5, .inr (5, [.int 6, .int 500, .ref j6, .int 0]))] H := hP
  have hD : va_D A [(h0, .inr (4, [.ref h1, .ref h2, .ref h3, .ref h4, .ref h5, .ref j0, .ref j1, .int 0, .int 0, .int 0, .int 0])), (h1, .inr (5, [.int 12, .int 30, .ref j2, .int 0])), (h2, .inr (5, [.int 6, .int 1000, .ref j3, .int 0])), (h3, .inr (5, [.int 4, .int 150, .ref j4, .int 0])), (h4, .inr (5, [.int 4, .int 400, .ref j5, .int 0])), (h5, .inr (5, [.int 6, .int 500, .ref j6, .int 0]))] := hD
  refine W.widen (k := 0) (n := 0) (Nat.le_of_ble_eq_true rfl) (Nat.le_of_ble_eq_true rfl) ?_
  exact W.vret hx hb hr (fun t ht hW => ⟨⟨(), rfl, trivial, by rw [ht]; exact hP, va_K.moved hW.alike hK, hD⟩, hS.F ht⟩) hS.2.2 dX7_reset_55
set_option maxHeartbeats 4000000 in
set_option maxRecDepth 100000 in
theorem tX6_refuse_n1 (l : Launch) (dC : Nat → ClassId) (dI : Nat → Nat → Nat) (h0 h1 h2 h3 h4 h5 h6 h7 h8 h9 h10 h11 j0 j1 j2 j3 j4 j5 j6 j7 : Nat) (sz : Nat) (k0 k1 k2 : ClassId) (f_0 : Nat → Int64) : Met l yX6_refuse (.code yX6_refuse cX6_refuse 2 (some .boolean) :: wP) ({ frames := 0, cells := 0, slots := 0, locals := 0 }) (Pz dC dI [.ref h0, .int 1] sz [(h0, .inr (3, [.ref h1, .ref h2, .ref h3, .int 0, .int 0, .int 0])), (h1, .inr (6, [.ref h2, .ref h4, .ref j0, .ref h5, .int 0, .int 0, .int (-1)])), (h2, .inr (5, [.int 5, .int 1201, .ref h6, .int 1])), (h3, .inr (4, [.ref h7, .ref h8, .ref h9, .ref h10, .ref h11, .ref j1, .ref j2, .int 0, .int 0, .int 0, .int 0])), (h4, .inl (k0, 1201, .inr (.inl f_0))), (h5, .inl (k1, 4000, .inl (fun _ => 0))), (h6, .inl (k2, 6005, .inl (upd (upd (upd (upd (upd (upd (upd (upd (fun _ => 0) (0 : Int32).toNatClampNeg (-1)) (1 : Int32).toNatClampNeg (-1)) (2 : Int32).toNatClampNeg (-1)) (3 : Int32).toNatClampNeg (-1)) (4 : Int32).toNatClampNeg (-1)) (0 : Int32).toNatClampNeg 37) (1 : Int32).toNatClampNeg 0) (2 : Int32).toNatClampNeg 0))), (h7, .inr (5, [.int 12, .int 30, .ref j3, .int 0])), (h8, .inr (5, [.int 6, .int 1000, .ref j4, .int 0])), (h9, .inr (5, [.int 4, .int 150, .ref j5, .int 0])), (h10, .inr (5, [.int 4, .int 400, .ref j6, .int 0])), (h11, .inr (5, [.int 6, .int 500, .ref j7, .int 0]))] [(k0, .long), (k1, .byte), (k2, .int)]) (va_Qi (fun (r : Int32) (_ : Unit) => r = 0) (fun (_ : Unit) (t : State) => va_P (dC, dI) vC [(h0, .inr (3, [.ref h1, .ref h2, .ref h3, .int 0, .int 0, .int 1])), (h1, .inr (6, [.ref h2, .ref h4, .ref j0, .ref h5, .int 0, .int 0, .int (-1)])), (h2, .inr (5, [.int 5, .int 1201, .ref h6, .int 1])), (h3, .inr (4, [.ref h7, .ref h8, .ref h9, .ref h10, .ref h11, .ref j1, .ref j2, .int 0, .int 0, .int 0, .int 0])), (h4, .inl (k0, 1201, .inr (.inl f_0))), (h5, .inl (k1, 4000, .inl (fun _ => 0))), (h6, .inl (k2, 6005, .inl (upd (upd (upd (upd (upd (upd (upd (upd (fun _ => 0) (0 : Int32).toNatClampNeg (-1)) (1 : Int32).toNatClampNeg (-1)) (2 : Int32).toNatClampNeg (-1)) (3 : Int32).toNatClampNeg (-1)) (4 : Int32).toNatClampNeg (-1)) (0 : Int32).toNatClampNeg 37) (1 : Int32).toNatClampNeg 0) (2 : Int32).toNatClampNeg 0))), (h7, .inr (5, [.int 12, .int 30, .ref j3, .int 0])), (h8, .inr (5, [.int 6, .int 1000, .ref j4, .int 0])), (h9, .inr (5, [.int 4, .int 150, .ref j5, .int 0])), (h10, .inr (5, [.int 4, .int 400, .ref j6, .int 0])), (h11, .inr (5, [.int 6, .int 500, .ref j7, .int 0]))] t.heap ∧ va_K (dC, dI) vC [(k0, .long), (k1, .byte), (k2, .int)] t ∧ va_D (va_A [(h0, .inr (3, [.ref h1, .ref h2, .ref h3, .int 0, .int 0, .int 0])), (h1, .inr (6, [.ref h2, .ref h4, .ref j0, .ref h5, .int 0, .int 0, .int (-1)])), (h2, .inr (5, [.int 5, .int 1201, .ref h6, .int 1])), (h3, .inr (4, [.ref h7, .ref h8, .ref h9, .ref h10, .ref h11, .ref j1, .ref j2, .int 0, .int 0, .int 0, .int 0])), (h4, .inl (k0, 1201, .inr (.inl f_0))), (h5, .inl (k1, 4000, .inl (fun _ => 0))), (h6, .inl (k2, 6005, .inl (upd (upd (upd (upd (upd (upd (upd (upd (fun _ => 0) (0 : Int32).toNatClampNeg (-1)) (1 : Int32).toNatClampNeg (-1)) (2 : Int32).toNatClampNeg (-1)) (3 : Int32).toNatClampNeg (-1)) (4 : Int32).toNatClampNeg (-1)) (0 : Int32).toNatClampNeg 37) (1 : Int32).toNatClampNeg 0) (2 : Int32).toNatClampNeg 0))), (h7, .inr (5, [.int 12, .int 30, .ref j3, .int 0])), (h8, .inr (5, [.int 6, .int 1000, .ref j4, .int 0])), (h9, .inr (5, [.int 4, .int 150, .ref j5, .int 0])), (h10, .inr (5, [.int 4, .int 400, .ref j6, .int 0])), (h11, .inr (5, [.int 6, .int 500, .ref j7, .int 0]))] sz) [(h0, .inr (3, [.ref h1, .ref h2, .ref h3, .int 0, .int 0, .int 1])), (h1, .inr (6, [.ref h2, .ref h4, .ref j0, .ref h5, .int 0, .int 0, .int (-1)])), (h2, .inr (5, [.int 5, .int 1201, .ref h6, .int 1])), (h3, .inr (4, [.ref h7, .ref h8, .ref h9, .ref h10, .ref h11, .ref j1, .ref j2, .int 0, .int 0, .int 0, .int 0])), (h4, .inl (k0, 1201, .inr (.inl f_0))), (h5, .inl (k1, 4000, .inl (fun _ => 0))), (h6, .inl (k2, 6005, .inl (upd (upd (upd (upd (upd (upd (upd (upd (fun _ => 0) (0 : Int32).toNatClampNeg (-1)) (1 : Int32).toNatClampNeg (-1)) (2 : Int32).toNatClampNeg (-1)) (3 : Int32).toNatClampNeg (-1)) (4 : Int32).toNatClampNeg (-1)) (0 : Int32).toNatClampNeg 37) (1 : Int32).toNatClampNeg 0) (2 : Int32).toNatClampNeg 0))), (h7, .inr (5, [.int 12, .int 30, .ref j3, .int 0])), (h8, .inr (5, [.int 6, .int 1000, .ref j4, .int 0])), (h9, .inr (5, [.int 4, .int 150, .ref j5, .int 0])), (h10, .inr (5, [.int 4, .int 400, .ref j6, .int 0])), (h11, .inr (5, [.int 6, .int 500, .ref j7, .int 0]))]) (va_A [(h0, .inr (3, [.ref h1, .ref h2, .ref h3, .int 0, .int 0, .int 0])), (h1, .inr (6, [.ref h2, .ref h4, .ref j0, .ref h5, .int 0, .int 0, .int (-1)])), (h2, .inr (5, [.int 5, .int 1201, .ref h6, .int 1])), (h3, .inr (4, [.ref h7, .ref h8, .ref h9, .ref h10, .ref h11, .ref j1, .ref j2, .int 0, .int 0, .int 0, .int 0])), (h4, .inl (k0, 1201, .inr (.inl f_0))), (h5, .inl (k1, 4000, .inl (fun _ => 0))), (h6, .inl (k2, 6005, .inl (upd (upd (upd (upd (upd (upd (upd (upd (fun _ => 0) (0 : Int32).toNatClampNeg (-1)) (1 : Int32).toNatClampNeg (-1)) (2 : Int32).toNatClampNeg (-1)) (3 : Int32).toNatClampNeg (-1)) (4 : Int32).toNatClampNeg (-1)) (0 : Int32).toNatClampNeg 37) (1 : Int32).toNatClampNeg 0) (2 : Int32).toNatClampNeg 0))), (h7, .inr (5, [.int 12, .int 30, .ref j3, .int 0])), (h8, .inr (5, [.int 6, .int 1000, .ref j4, .int 0])), (h9, .inr (5, [.int 4, .int 150, .ref j5, .int 0])), (h10, .inr (5, [.int 4, .int 400, .ref j6, .int 0])), (h11, .inr (5, [.int 6, .int 500, .ref j7, .int 0]))] sz)) 0 0 (va_A [(h0, .inr (3, [.ref h1, .ref h2, .ref h3, .int 0, .int 0, .int 0])), (h1, .inr (6, [.ref h2, .ref h4, .ref j0, .ref h5, .int 0, .int 0, .int (-1)])), (h2, .inr (5, [.int 5, .int 1201, .ref h6, .int 1])), (h3, .inr (4, [.ref h7, .ref h8, .ref h9, .ref h10, .ref h11, .ref j1, .ref j2, .int 0, .int 0, .int 0, .int 0])), (h4, .inl (k0, 1201, .inr (.inl f_0))), (h5, .inl (k1, 4000, .inl (fun _ => 0))), (h6, .inl (k2, 6005, .inl (upd (upd (upd (upd (upd (upd (upd (upd (fun _ => 0) (0 : Int32).toNatClampNeg (-1)) (1 : Int32).toNatClampNeg (-1)) (2 : Int32).toNatClampNeg (-1)) (3 : Int32).toNatClampNeg (-1)) (4 : Int32).toNatClampNeg (-1)) (0 : Int32).toNatClampNeg 37) (1 : Int32).toNatClampNeg 0) (2 : Int32).toNatClampNeg 0))), (h7, .inr (5, [.int 12, .int 30, .ref j3, .int 0])), (h8, .inr (5, [.int 6, .int 1000, .ref j4, .int 0])), (h9, .inr (5, [.int 4, .int 150, .ref j5, .int 0])), (h10, .inr (5, [.int 4, .int 400, .ref j6, .int 0])), (h11, .inr (5, [.int 6, .int 500, .ref j7, .int 0]))] sz) := by
  refine Met.ofW (cc := cX6_refuse) (maxL := 2) (ret := (some .boolean)) (by decide) rfl ?_
  intro p e s m args below meth c s₁ B hml hv
  obtain ⟨rfl, hsz, hP, hK, hD0⟩ := hv
  have hx := B.exec
  have hb := B.bytes
  have hr := B.returns
  have hts := atoms_spec (ws := .code yX6_refuse cX6_refuse 2 (some .boolean) :: wP) B.pre
  have hw : ∀ w ∈ wP, w.before _ s = true := fun w h => hts w (List.mem_cons_of_mem _ h)
  have hown : s.vm.findClass RX6 = some m.cls := findClass_of_methodNamed B.named
  have hlocks := B.notSynchronized
  subst hsz
  have hD := hD0.self (sz := s.heap.size)
  generalize hAe : va_A [(h0, .inr (3, [.ref h1, .ref h2, .ref h3, .int 0, .int 0, .int 0])), (h1, .inr (6, [.ref h2, .ref h4, .ref j0, .ref h5, .int 0, .int 0, .int (-1)])), (h2, .inr (5, [.int 5, .int 1201, .ref h6, .int 1])), (h3, .inr (4, [.ref h7, .ref h8, .ref h9, .ref h10, .ref h11, .ref j1, .ref j2, .int 0, .int 0, .int 0, .int 0])), (h4, .inl (k0, 1201, .inr (.inl f_0))), (h5, .inl (k1, 4000, .inl (fun _ => 0))), (h6, .inl (k2, 6005, .inl (upd (upd (upd (upd (upd (upd (upd (upd (fun _ => 0) (0 : Int32).toNatClampNeg (-1)) (1 : Int32).toNatClampNeg (-1)) (2 : Int32).toNatClampNeg (-1)) (3 : Int32).toNatClampNeg (-1)) (4 : Int32).toNatClampNeg (-1)) (0 : Int32).toNatClampNeg 37) (1 : Int32).toNatClampNeg 0) (2 : Int32).toNatClampNeg 0))), (h7, .inr (5, [.int 12, .int 30, .ref j3, .int 0])), (h8, .inr (5, [.int 6, .int 1000, .ref j4, .int 0])), (h9, .inr (5, [.int 4, .int 150, .ref j5, .int 0])), (h10, .inr (5, [.int 4, .int 400, .ref j6, .int 0])), (h11, .inr (5, [.int 6, .int 500, .ref j7, .int 0]))] s.heap.size = A at hD ⊢
  have hA : ∀ q : Nat, s.heap.size ≤ q → A q := fun q h => by rw [← hAe]; exact Or.inr h
  have hS : va_S A s.heap s.heap [] := va_S.rf
  have hP : va_P (dC, dI) vC [(h0, .inr (3, [.ref h1, .ref h2, .ref h3, .int 0, .int 0, .int 0])), (h1, .inr (6, [.ref h2, .ref h4, .ref j0, .ref h5, .int 0, .int 0, .int (-1)])), (h2, .inr (5, [.int 5, .int 1201, .ref h6, .int 1])), (h3, .inr (4, [.ref h7, .ref h8, .ref h9, .ref h10, .ref h11, .ref j1, .ref j2, .int 0, .int 0, .int 0, .int 0])), (h4, .inl (k0, 1201, .inr (.inl f_0))), (h5, .inl (k1, 4000, .inl (fun _ => 0))), (h6, .inl (k2, 6005, .inl (upd (upd (upd (upd (upd (upd (upd (upd (fun _ => 0) (0 : Int32).toNatClampNeg (-1)) (1 : Int32).toNatClampNeg (-1)) (2 : Int32).toNatClampNeg (-1)) (3 : Int32).toNatClampNeg (-1)) (4 : Int32).toNatClampNeg (-1)) (0 : Int32).toNatClampNeg 37) (1 : Int32).toNatClampNeg 0) (2 : Int32).toNatClampNeg 0))), (h7, .inr (5, [.int 12, .int 30, .ref j3, .int 0])), (h8, .inr (5, [.int 6, .int 1000, .ref j4, .int 0])), (h9, .inr (5, [.int 4, .int 150, .ref j5, .int 0])), (h10, .inr (5, [.int 4, .int 400, .ref j6, .int 0])), (h11, .inr (5, [.int 6, .int 500, .ref j7, .int 0]))] s.heap := hP
  have hl := lv_entry ([.ref h0, .int 1]) (n := 2) (Nat.le_of_ble_eq_true rfl)
  rw [lg_entry_eq]
  generalize (lg_sl ([.ref h0, .int 1]) ++ List.replicate (2 - (lg_sl ([.ref h0, .int 1])).length) Slot.unset).toArray = ls at hl ⊢
  have hl : lv_has ls 2 [(0, .ref h0), (1, .int 1)] := hl
  refine lv_aload_n hx hb dX6_refuse_0 rfl (lv_at hl 0 rfl) ?_
  refine lv_iload_n hx hb dX6_refuse_1 rfl (lv_at hl 1 rfl) ?_
  refine va_put (D := (dC, dI)) (ci := 3) (v := .int 1) (ty := .int) (C := RX6) (T := TX6) (N := 6) hx hb hw inX6 tyX6 tyX6_ok nmX6 hown hK hP hD hS 0 rfl rfl 5 (by decide) (hw _ mP_325) (fun _ h9 => h9) rfl (tyX6_ok 5 (by decide)) rfl rfl (Nat.le_of_ble_eq_true rfl) dX6_refuse_2 (fun H locs hP hD hS => ?_)
  have hP : va_P (dC, dI) vC [(h0, .inr (3, [.ref h1, .ref h2, .ref h3, .int 0, .int 0, .int 1])), (h1, .inr (6, [.ref h2, .ref h4, .ref j0, .ref h5, .int 0, .int 0, .int (-1)])), (h2, .inr (5, [.int 5, .int 1201, .ref h6, .int 1])), (h3, .inr (4, [.ref h7, .ref h8, .ref h9, .ref h10, .ref h11, .ref j1, .ref j2, .int 0, .int 0, .int 0, .int 0])), (h4, .inl (k0, 1201, .inr (.inl f_0))), (h5, .inl (k1, 4000, .inl (fun _ => 0))), (h6, .inl (k2, 6005, .inl (upd (upd (upd (upd (upd (upd (upd (upd (fun _ => 0) (0 : Int32).toNatClampNeg (-1)) (1 : Int32).toNatClampNeg (-1)) (2 : Int32).toNatClampNeg (-1)) (3 : Int32).toNatClampNeg (-1)) (4 : Int32).toNatClampNeg (-1)) (0 : Int32).toNatClampNeg 37) (1 : Int32).toNatClampNeg 0) (2 : Int32).toNatClampNeg 0))), (h7, .inr (5, [.int 12, .int 30, .ref j3, .int 0])), (h8, .inr (5, [.int 6, .int 1000, .ref j4, .int 0])), (h9, .inr (5, [.int 4, .int 150, .ref j5, .int 0])), (h10, .inr (5, [.int 4, .int 400, .ref j6, .int 0])), (h11, .inr (5, [.int 6, .int 500, .ref j7, .int 0]))] H := hP
  have hD : va_D A [(h0, .inr (3, [.ref h1, .ref h2, .ref h3, .int 0, .int 0, .int 1])), (h1, .inr (6, [.ref h2, .ref h4, .ref j0, .ref h5, .int 0, .int 0, .int (-1)])), (h2, .inr (5, [.int 5, .int 1201, .ref h6, .int 1])), (h3, .inr (4, [.ref h7, .ref h8, .ref h9, .ref h10, .ref h11, .ref j1, .ref j2, .int 0, .int 0, .int 0, .int 0])), (h4, .inl (k0, 1201, .inr (.inl f_0))), (h5, .inl (k1, 4000, .inl (fun _ => 0))), (h6, .inl (k2, 6005, .inl (upd (upd (upd (upd (upd (upd (upd (upd (fun _ => 0) (0 : Int32).toNatClampNeg (-1)) (1 : Int32).toNatClampNeg (-1)) (2 : Int32).toNatClampNeg (-1)) (3 : Int32).toNatClampNeg (-1)) (4 : Int32).toNatClampNeg (-1)) (0 : Int32).toNatClampNeg 37) (1 : Int32).toNatClampNeg 0) (2 : Int32).toNatClampNeg 0))), (h7, .inr (5, [.int 12, .int 30, .ref j3, .int 0])), (h8, .inr (5, [.int 6, .int 1000, .ref j4, .int 0])), (h9, .inr (5, [.int 4, .int 150, .ref j5, .int 0])), (h10, .inr (5, [.int 4, .int 400, .ref j6, .int 0])), (h11, .inr (5, [.int 6, .int 500, .ref j7, .int 0]))] := hD
  refine lv_iconst (v := 0) hx hb dX6_refuse_5 (by decide) ?_
  refine W.widen (k := 0) (n := 0) (Nat.le_of_ble_eq_true rfl) (Nat.le_of_ble_eq_true rfl) ?_
  exact W.zret (v := 0) hx hb hr rfl (fun t ht hW => ⟨⟨0, (), rfl, rfl, by rw [ht]; exact hP, va_K.moved hW.alike hK, hD⟩, hS.F ht⟩) hS.2.2 dX6_refuse_6
