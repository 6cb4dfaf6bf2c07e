set_option maxHeartbeats 4000000 in
set_option maxRecDepth 100000 in
theorem tX11_init_n1 (l : Launch) (dC : Nat → ClassId) (dI : Nat → Nat → Nat) (h0 : Nat) (sz : Nat) : Met l yX11_init (.code yX11_init cX11_init 1 none :: wP) ({ frames := 1, cells := 2, slots := 4050, locals := 20 }) (Pz dC dI [.ref h0] sz [(h0, .inr (7, [.null, .int 0, .null, .int 0, .int 0, .null, .null, .null, .null, .null, .null, .null, .null, .null, .null]))] []) (va_Qv (fun (_ : Unit) => True) (fun (_ : Unit) (t : State) => ∃ (q1 : Nat) (q3 : Nat) (b2 : ClassId) (b4 : ClassId), va_P (dC, dI) vC [(h0, .inr (7, [.ref q1, .int 0, .ref q3, .int 0, .int (-1), .null, .null, .null, .null, .null, .null, .null, .null, .null, .null])), (q1, .inl (b2, 4000, .inl (fun _ => 0))), (q3, .inl (b4, 50, .inl (fun _ => 0)))] t.heap ∧ va_K (dC, dI) vC [(b2, .byte), (b4, .int)] t ∧ va_D (va_A [(h0, .inr (7, [.null, .int 0, .null, .int 0, .int 0, .null, .null, .null, .null, .null, .null, .null, .null, .null, .null]))] sz) [(h0, .inr (7, [.ref q1, .int 0, .ref q3, .int 0, .int (-1), .null, .null, .null, .null, .null, .null, .null, .null, .null, .null])), (q1, .inl (b2, 4000, .inl (fun _ => 0))), (q3, .inl (b4, 50, .inl (fun _ => 0)))]) (va_A [(h0, .inr (7, [.null, .int 0, .null, .int 0, .int 0, .null, .null, .null, .null, .null, .null, .null, .null, .null, .null]))] sz)) 2 4050 (va_A [(h0, .inr (7, [.null, .int 0, .null, .int 0, .int 0, .null, .null, .null, .null, .null, .null, .null, .null, .null, .null]))] sz) := by
  refine Met.ofW (cc := cX11_init) (maxL := 1) (ret := none) (by decide) rfl ?_
  intro p e s m args below meth c s₁ B hml hv
  obtain ⟨rfl, hsz, hP, hK, hD0⟩ := hv
  have hx := B.exec
  have hb := B.bytes
  have hr := B.returns
  have hts := atoms_spec (ws := .code yX11_init cX11_init 1 none :: wP) B.pre
  have hw : ∀ w ∈ wP, w.before _ s = true := fun w h => hts w (List.mem_cons_of_mem _ h)
  have hown : s.vm.findClass RX11 = some m.cls := findClass_of_methodNamed B.named
  have hlocks := B.notSynchronized
  have hin : meth.name = "<init>" := (name_of_methodNamed B.named B.method).1
  subst hsz
  have hD := hD0.self (sz := s.heap.size)
  generalize hAe : va_A [(h0, .inr (7, [.null, .int 0, .null, .int 0, .int 0, .null, .null, .null, .null, .null, .null, .null, .null, .null, .null]))] s.heap.size = A at hD ⊢
  have hA : ∀ q : Nat, s.heap.size ≤ q → A q := fun q h => by rw [← hAe]; exact Or.inr h
  have hS : va_S A s.heap s.heap [] := va_S.rf
  have hP : va_P (dC, dI) vC [(h0, .inr (7, [.null, .int 0, .null, .int 0, .int 0, .null, .null, .null, .null, .null, .null, .null, .null, .null, .null]))] s.heap := hP
  have hl := lv_entry ([.ref h0]) (n := 1) (Nat.le_of_ble_eq_true rfl)
  rw [lg_entry_eq]
  generalize (lg_sl ([.ref h0]) ++ List.replicate (1 - (lg_sl ([.ref h0])).length) Slot.unset).toArray = ls at hl ⊢
  have hl : lv_has ls 1 [(0, .ref h0)] := hl
  refine lv_aload_n hx hb dX11_init_0 rfl (lv_at hl 0 rfl) ?_
  refine W.objInit hx hb hown (hw _ mP_27) (hw _ mP_28) (hw _ mP_29) rfl (by rw [hml]; exact hl.1) rfl dX11_init_1 (Nat.le_of_ble_eq_true rfl) (Nat.le_of_ble_eq_true rfl) ?_
  refine W.eq (g2 := F0 m 4 ls []) rfl ?_
  refine lv_aload_n hx hb dX11_init_4 rfl (lv_at hl 0 rfl) ?_
  refine lv_sipush (v := 4000) hx hb dX11_init_5 (by decide) ?_
  refine va_newa (atype := .byte) (ty := .byte) (a0 := (4000, .inl (fun _ => 0))) hx hb (hw _ mP_30) rfl hK hP hD hS hA (fun _ => rfl) (by decide +kernel) (by decide +kernel) (by decide +kernel) (Nat.le_of_ble_eq_true rfl) (Nat.le_of_ble_eq_true rfl) dX11_init_8 (fun q1 b2 H hK hP hD hS => ?_)
  have hP : va_P (dC, dI) vC [(h0, .inr (7, [.null, .int 0, .null, .int 0, .int 0, .null, .null, .null, .null, .null, .null, .null, .null, .null, .null])), (q1, .inl (b2, 4000, .inl (fun _ => 0)))] H := hP
  have hD : va_D A [(h0, .inr (7, [.null, .int 0, .null, .int 0, .int 0, .null, .null, .null, .null, .null, .null, .null, .null, .null, .null])), (q1, .inl (b2, 4000, .inl (fun _ => 0)))] := hD
  have hK : va_K (dC, dI) vC [(b2, .byte)] s := hK
  refine W.widen (k := 1) (n := 4000) (Nat.le_of_ble_eq_true rfl) (Nat.le_of_ble_eq_true rfl) ?_
  refine va_putF (D := (dC, dI)) (ci := 7) (v := .ref q1) (ty := .array .byte) (C := RX11) (T := TX11) (N := 15) hx hb hw inX11 tyX11 tyX11_ok nmX11 hown hK hP hD hS 0 rfl rfl 0 (by decide) (hw _ mP_31) (fun _ h9 => h9) rfl hin rfl (tyX11_ok 0 (by decide)) rfl rfl (Nat.le_of_ble_eq_true rfl) dX11_init_10 (fun H locs hP hD hS => ?_)
  have hP : va_P (dC, dI) vC [(h0, .inr (7, [.ref q1, .int 0, .null, .int 0, .int 0, .null, .null, .null, .null, .null, .null, .null, .null, .null, .null])), (q1, .inl (b2, 4000, .inl (fun _ => 0)))] H := hP
  have hD : va_D A [(h0, .inr (7, [.ref q1, .int 0, .null, .int 0, .int 0, .null, .null, .null, .null, .null, .null, .null, .null, .null, .null])), (q1, .inl (b2, 4000, .inl (fun _ => 0)))] := hD
  refine lv_aload_n hx hb dX11_init_13 rfl (lv_at hl 0 rfl) ?_
  refine lv_bipush (v := 50) hx hb dX11_init_14 (by decide) ?_
  refine va_newa (atype := .int) (ty := .int) (a0 := (50, .inl (fun _ => 0))) hx hb (hw _ mP_32) rfl hK hP hD hS hA (fun _ => rfl) (by decide +kernel) (by decide +kernel) (by decide +kernel) (Nat.le_of_ble_eq_true rfl) (Nat.le_of_ble_eq_true rfl) dX11_init_16 (fun q3 b4 H hK hP hD hS => ?_)
  have hP : va_P (dC, dI) vC [(h0, .inr (7, [.ref q1, .int 0, .null, .int 0, .int 0, .null, .null, .null, .null, .null, .null, .null, .null, .null, .null])), (q1, .inl (b2, 4000, .inl (fun _ => 0))), (q3, .inl (b4, 50, .inl (fun _ => 0)))] H := hP
  have hD : va_D A [(h0, .inr (7, [.ref q1, .int 0, .null, .int 0, .int 0, .null, .null, .null, .null, .null, .null, .null, .null, .null, .null])), (q1, .inl (b2, 4000, .inl (fun _ => 0))), (q3, .inl (b4, 50, .inl (fun _ => 0)))] := hD
  have hK : va_K (dC, dI) vC [(b2, .byte), (b4, .int)] s := hK
  refine W.widen (k := 2) (n := 4050) (Nat.le_of_ble_eq_true rfl) (Nat.le_of_ble_eq_true rfl) ?_
  refine va_putF (D := (dC, dI)) (ci := 7) (v := .ref q3) (ty := .array .int) (C := RX11) (T := TX11) (N := 15) hx hb hw inX11 tyX11 tyX11_ok nmX11 hown hK hP hD hS 0 rfl rfl 2 (by decide) (hw _ mP_33) (fun _ h9 => h9) rfl hin rfl (tyX11_ok 2 (by decide)) rfl rfl (Nat.le_of_ble_eq_true rfl) dX11_init_18 (fun H locs hP hD hS => ?_)
  have hP : va_P (dC, dI) vC [(h0, .inr (7, [.ref q1, .int 0, .ref q3, .int 0, .int 0, .null, .null, .null, .null, .null, .null, .null, .null, .null, .null])), (q1, .inl (b2, 4000, .inl (fun _ => 0))), (q3, .inl (b4, 50, .inl (fun _ => 0)))] H := hP
  have hD : va_D A [(h0, .inr (7, [.ref q1, .int 0, .ref q3, .int 0, .int 0, .null, .null, .null, .null, .null, .null, .null, .null, .null, .null])), (q1, .inl (b2, 4000, .inl (fun _ => 0))), (q3, .inl (b4, 50, .inl (fun _ => 0)))] := hD
  refine lv_aload_n hx hb dX11_init_21 rfl (lv_at hl 0 rfl) ?_
  refine lv_iconst (v := (-1)) hx hb dX11_init_22 (by decide) ?_
  refine va_put (D := (dC, dI)) (ci := 7) (v := .int (-1)) (ty := .int) (C := RX11) (T := TX11) (N := 15) hx hb hw inX11 tyX11 tyX11_ok nmX11 hown hK hP hD hS 0 rfl rfl 4 (by decide) (hw _ mP_34) (fun _ h9 => h9) rfl (tyX11_ok 4 (by decide)) rfl rfl (Nat.le_of_ble_eq_true rfl) dX11_init_23 (fun H locs hP hD hS => ?_)
  have hP : va_P (dC, dI) vC [(h0, .inr (7, [.ref q1, .int 0, .ref q3, .int 0, .int (-1), .null, .null, .null, .null, .null, .null, .null, .null, .null, .null])), (q1, .inl (b2, 4000, .inl (fun _ => 0))), (q3, .inl (b4, 50, .inl (fun _ => 0)))] H := hP
  have hD : va_D A [(h0, .inr (7, [.ref q1, .int 0, .ref q3, .int 0, .int (-1), .null, .null, .null, .null, .null, .null, .null, .null, .null, .null])), (q1, .inl (b2, 4000, .inl (fun _ => 0))), (q3, .inl (b4, 50, .inl (fun _ => 0)))] := hD
  refine W.widen (k := 2) (n := 4050) (Nat.le_of_ble_eq_true rfl) (Nat.le_of_ble_eq_true rfl) ?_
  exact W.vret hx hb hr (fun t ht hW => ⟨⟨(), rfl, trivial, q1, q3, b2, b4, by rw [ht]; exact hP, va_K.moved hW.alike hK, hD⟩, hS.F ht⟩) hS.2.2 dX11_init_26
set_option maxHeartbeats 4000000 in
set_option maxRecDepth 100000 in
theorem tX12_word_n1 (l : Launch) (dC : Nat → ClassId) (dI : Nat → Nat → Nat) (sz : Nat) : Met l yX12_word (.code yX12_word cX12_word 4 (some .int) :: wP) ({ frames := 0, cells := 0, slots := 0, locals := 0 }) (Pz dC dI [.int 102, .int 117, .int 110, .int 0] sz [] []) (va_Qi (fun (r : Int32) (_ : Unit) => r = 215840512) (fun (_ : Unit) (t : State) => va_P (dC, dI) vC [] t.heap ∧ va_K (dC, dI) vC [] t ∧ va_D (va_A [] sz) []) (va_A [] sz)) 0 0 (va_A [] sz) := by
  refine Met.ofW (cc := cX12_word) (maxL := 4) (ret := (some .int)) (by decide) rfl ?_
  intro p e s m args below meth c s₁ B hml hv
  obtain ⟨rfl, hsz, hP, hK, hD0⟩ := hv
  have hx := B.exec
  have hb := B.bytes
  have hr := B.returns
  have hts := atoms_spec (ws := .code yX12_word cX12_word 4 (some .int) :: wP) B.pre
  have hw : ∀ w ∈ wP, w.before _ s = true := fun w h => hts w (List.mem_cons_of_mem _ h)
  have hown : s.vm.findClass RX12 = some m.cls := findClass_of_methodNamed B.named
  have hlocks := B.notSynchronized
  subst hsz
  have hD := hD0.self (sz := s.heap.size)
  generalize hAe : va_A [] s.heap.size = A at hD ⊢
  have hA : ∀ q : Nat, s.heap.size ≤ q → A q := fun q h => by rw [← hAe]; exact Or.inr h
  have hS : va_S A s.heap s.heap [] := va_S.rf
  have hP : va_P (dC, dI) vC [] s.heap := hP
  have hl := lv_entry ([.int 102, .int 117, .int 110, .int 0]) (n := 4) (Nat.le_of_ble_eq_true rfl)
  rw [lg_entry_eq]
  generalize (lg_sl ([.int 102, .int 117, .int 110, .int 0]) ++ List.replicate (4 - (lg_sl ([.int 102, .int 117, .int 110, .int 0])).length) Slot.unset).toArray = ls at hl ⊢
  have hl : lv_has ls 4 [(0, .int 102), (1, .int 117), (2, .int 110), (3, .int 0)] := hl
  refine lv_iload_n hx hb dX12_word_0 rfl (lv_at hl 0 rfl) ?_
  refine lv_sipush (v := 128) hx hb dX12_word_1 (by decide) ?_
  refine lv_imul hx hb dX12_word_4 ?_
  refine lv_nmi (y := 13056) (by decide +kernel) ?_
  refine lv_iload_n hx hb dX12_word_5 rfl (lv_at hl 1 rfl) ?_
  refine lv_iadd hx hb dX12_word_6 ?_
  refine lv_nmi (y := 13173) (by decide +kernel) ?_
  refine lv_sipush (v := 128) hx hb dX12_word_7 (by decide) ?_
  refine lv_imul hx hb dX12_word_10 ?_
  refine lv_nmi (y := 1686144) (by decide +kernel) ?_
  refine lv_iload_n hx hb dX12_word_11 rfl (lv_at hl 2 rfl) ?_
  refine lv_iadd hx hb dX12_word_12 ?_
  refine lv_nmi (y := 1686254) (by decide +kernel) ?_
  refine lv_sipush (v := 128) hx hb dX12_word_13 (by decide) ?_
  refine lv_imul hx hb dX12_word_16 ?_
  refine lv_nmi (y := 215840512) (by decide +kernel) ?_
  refine lv_iload_n hx hb dX12_word_17 rfl (lv_at hl 3 rfl) ?_
  refine lv_iadd hx hb dX12_word_18 ?_
  refine lv_nmi (y := 215840512) (by decide +kernel) ?_
  refine W.widen (k := 0) (n := 0) (Nat.le_of_ble_eq_true rfl) (Nat.le_of_ble_eq_true rfl) ?_
  exact W.iret (v := 215840512) hx hb hr (fun t ht hW => ⟨⟨215840512, (), rfl, rfl, by rw [ht]; exact hP, va_K.moved hW.alike hK, hD⟩, hS.F ht⟩) hS.2.2 dX12_word_19
set_option maxHeartbeats 4000000 in
set_option maxRecDepth 100000 in
theorem tX12_word_n2 (l : Launch) (dC : Nat → ClassId) (dI : Nat → Nat → Nat) (sz : Nat) : Met l yX12_word (.code yX12_word cX12_word 4 (some .int) :: wP) ({ frames := 0, cells := 0, slots := 0, locals := 0 }) (Pz dC dI [.int 112, .int 104, .int 105, .int 0] sz [] []) (va_Qi (fun (r : Int32) (_ : Unit) => r = 236598400) (fun (_ : Unit) (t : State) => va_P (dC, dI) vC [] t.heap ∧ va_K (dC, dI) vC [] t ∧ va_D (va_A [] sz) []) (va_A [] sz)) 0 0 (va_A [] sz) := by
  refine Met.ofW (cc := cX12_word) (maxL := 4) (ret := (some .int)) (by decide) rfl ?_
  intro p e s m args below meth c s₁ B hml hv
  obtain ⟨rfl, hsz, hP, hK, hD0⟩ := hv
  have hx := B.exec
  have hb := B.bytes
  have hr := B.returns
  have hts := atoms_spec (ws := .code yX12_word cX12_word 4 (some .int) :: wP) B.pre
  have hw : ∀ w ∈ wP, w.before _ s = true := fun w h => hts w (List.mem_cons_of_mem _ h)
  have hown : s.vm.findClass RX12 = some m.cls := findClass_of_methodNamed B.named
  have hlocks := B.notSynchronized
  subst hsz
  have hD := hD0.self (sz := s.heap.size)
  generalize hAe : va_A [] s.heap.size = A at hD ⊢
  have hA : ∀ q : Nat, s.heap.size ≤ q → A q := fun q h => by rw [← hAe]; exact Or.inr h
  have hS : va_S A s.heap s.heap [] := va_S.rf
  have hP : va_P (dC, dI) vC [] s.heap := hP
  have hl := lv_entry ([.int 112, .int 104, .int 105, .int 0]) (n := 4) (Nat.le_of_ble_eq_true rfl)
  rw [lg_entry_eq]
  generalize (lg_sl ([.int 112, .int 104, .int 105, .int 0]) ++ List.replicate (4 - (lg_sl ([.int 112, .int 104, .int 105, .int 0])).length) Slot.unset).toArray = ls at hl ⊢
  have hl : lv_has ls 4 [(0, .int 112), (1, .int 104), (2, .int 105), (3, .int 0)] := hl
  refine lv_iload_n hx hb dX12_word_0 rfl (lv_at hl 0 rfl) ?_
  refine lv_sipush (v := 128) hx hb dX12_word_1 (by decide) ?_
  refine lv_imul hx hb dX12_word_4 ?_
  refine lv_nmi (y := 14336) (by decide +kernel) ?_
  refine lv_iload_n hx hb dX12_word_5 rfl (lv_at hl 1 rfl) ?_
  refine lv_iadd hx hb dX12_word_6 ?_
  refine lv_nmi (y := 14440) (by decide +kernel) ?_
  refine lv_sipush (v := 128) hx hb dX12_word_7 (by decide) ?_
  refine lv_imul hx hb dX12_word_10 ?_
  refine lv_nmi (y := 1848320) (by decide +kernel) ?_
  refine lv_iload_n hx hb dX12_word_11 rfl (lv_at hl 2 rfl) ?_
  refine lv_iadd hx hb dX12_word_12 ?_
  refine lv_nmi (y := 1848425) (by decide +kernel) ?_
  refine lv_sipush (v := 128) hx hb dX12_word_13 (by decide) ?_
  refine lv_imul hx hb dX12_word_16 ?_
  refine lv_nmi (y := 236598400) (by decide +kernel) ?_
  refine lv_iload_n hx hb dX12_word_17 rfl (lv_at hl 3 rfl) ?_
  refine lv_iadd hx hb dX12_word_18 ?_
  refine lv_nmi (y := 236598400) (by decide +kernel) ?_
  refine W.widen (k := 0) (n := 0) (Nat.le_of_ble_eq_true rfl) (Nat.le_of_ble_eq_true rfl) ?_
  exact W.iret (v := 236598400) hx hb hr (fun t ht hW => ⟨⟨236598400, (), rfl, rfl, by rw [ht]; exact hP, va_K.moved hW.alike hK, hD⟩, hS.F ht⟩) hS.2.2 dX12_word_19
set_option maxHeartbeats 4000000 in
set_option maxRecDepth 100000 in
theorem tX12_word_n3 (l : Launch) (dC : Nat → ClassId) (dI : Nat → Nat → Nat) (sz : Nat) : Met l yX12_word (.code yX12_word cX12_word 4 (some .int) :: wP) ({ frames := 0, cells := 0, slots := 0, locals := 0 }) (Pz dC dI [.int 105, .int 110, .int 0, .int 0] sz [] []) (va_Qi (fun (r : Int32) (_ : Unit) => r = 222003200) (fun (_ : Unit) (t : State) => va_P (dC, dI) vC [] t.heap ∧ va_K (dC, dI) vC [] t ∧ va_D (va_A [] sz) []) (va_A [] sz)) 0 0 (va_A [] sz) := by
  refine Met.ofW (cc := cX12_word) (maxL := 4) (ret := (some .int)) (by decide) rfl ?_
  intro p e s m args below meth c s₁ B hml hv
  obtain ⟨rfl, hsz, hP, hK, hD0⟩ := hv
  have hx := B.exec
  have hb := B.bytes
  have hr := B.returns
  have hts := atoms_spec (ws := .code yX12_word cX12_word 4 (some .int) :: wP) B.pre
  have hw : ∀ w ∈ wP, w.before _ s = true := fun w h => hts w (List.mem_cons_of_mem _ h)
  have hown : s.vm.findClass RX12 = some m.cls := findClass_of_methodNamed B.named
  have hlocks := B.notSynchronized
  subst hsz
  have hD := hD0.self (sz := s.heap.size)
  generalize hAe : va_A [] s.heap.size = A at hD ⊢
  have hA : ∀ q : Nat, s.heap.size ≤ q → A q := fun q h => by rw [← hAe]; exact Or.inr h
  have hS : va_S A s.heap s.heap [] := va_S.rf
  have hP : va_P (dC, dI) vC [] s.heap := hP
  have hl := lv_entry ([.int 105, .int 110, .int 0, .int 0]) (n := 4) (Nat.le_of_ble_eq_true rfl)
  rw [lg_entry_eq]
  generalize (lg_sl ([.int 105, .int 110, .int 0, .int 0]) ++ List.replicate (4 - (lg_sl ([.int 105, .int 110, .int 0, .int 0])).length) Slot.unset).toArray = ls at hl ⊢
  have hl : lv_has ls 4 [(0, .int 105), (1, .int 110), (2, .int 0), (3, .int 0)] := hl
  refine lv_iload_n hx hb dX12_word_0 rfl (lv_at hl 0 rfl) ?_
  refine lv_sipush (v := 128) hx hb dX12_word_1 (by decide) ?_
  refine lv_imul hx hb dX12_word_4 ?_
  refine lv_nmi (y := 13440) (by decide +kernel) ?_
  refine lv_iload_n hx hb dX12_word_5 rfl (lv_at hl 1 rfl) ?_
  refine lv_iadd hx hb dX12_word_6 ?_
  refine lv_nmi (y := 13550) (by decide +kernel) ?_
  refine lv_sipush (v := 128) hx hb dX12_word_7 (by decide) ?_
  refine lv_imul hx hb dX12_word_10 ?_
  refine lv_nmi (y := 1734400) (by decide +kernel) ?_
  refine lv_iload_n hx hb dX12_word_11 rfl (lv_at hl 2 rfl) ?_
  refine lv_iadd hx hb dX12_word_12 ?_
  refine lv_nmi (y := 1734400) (by decide +kernel) ?_
  refine lv_sipush (v := 128) hx hb dX12_word_13 (by decide) ?_
  refine lv_imul hx hb dX12_word_16 ?_
  refine lv_nmi (y := 222003200) (by decide +kernel) ?_
  refine lv_iload_n hx hb dX12_word_17 rfl (lv_at hl 3 rfl) ?_
  refine lv_iadd hx hb dX12_word_18 ?_
  refine lv_nmi (y := 222003200) (by decide +kernel) ?_
  refine W.widen (k := 0) (n := 0) (Nat.le_of_ble_eq_true rfl) (Nat.le_of_ble_eq_true rfl) ?_
  exact W.iret (v := 222003200) hx hb hr (fun t ht hW => ⟨⟨222003200, (), rfl, rfl, by rw [ht]; exact hP, va_K.moved hW.alike hK, hD⟩, hS.F ht⟩) hS.2.2 dX12_word_19
set_option maxHeartbeats 4000000 in
set_option maxRecDepth 100000 in
theorem tX12_word_n4 (l : Launch) (dC : Nat → ClassId) (dI : Nat → Nat → Nat) (sz : Nat) : Met l yX12_word (.code yX12_word cX12_word 4 (some .int) :: wP) ({ frames := 0, cells := 0, slots := 0, locals := 0 }) (Pz dC dI [.int 103, .int 101, .int 116, .int 0] sz [] []) (va_Qi (fun (r : Int32) (_ : Unit) => r = 217676288) (fun (_ : Unit) (t : State) => va_P (dC, dI) vC [] t.heap ∧ va_K (dC, dI) vC [] t ∧ va_D (va_A [] sz) []) (va_A [] sz)) 0 0 (va_A [] sz) := by
  refine Met.ofW (cc := cX12_word) (maxL := 4) (ret := (some .int)) (by decide) rfl ?_
  intro p e s m args below meth c s₁ B hml hv
  obtain ⟨rfl, hsz, hP, hK, hD0⟩ := hv
  have hx := B.exec
  have hb := B.bytes
  have hr := B.returns
  have hts := atoms_spec (ws := .code yX12_word cX12_word 4 (some .int) :: wP) B.pre
  have hw : ∀ w ∈ wP, w.before _ s = true := fun w h => hts w (List.mem_cons_of_mem _ h)
  have hown : s.vm.findClass RX12 = some m.cls := findClass_of_methodNamed B.named
  have hlocks := B.notSynchronized
  subst hsz
  have hD := hD0.self (sz := s.heap.size)
  generalize hAe : va_A [] s.heap.size = A at hD ⊢
  have hA : ∀ q : Nat, s.heap.size ≤ q → A q := fun q h => by rw [← hAe]; exact Or.inr h
  have hS : va_S A s.heap s.heap [] := va_S.rf
  have hP : va_P (dC, dI) vC [] s.heap := hP
  have hl := lv_entry ([.int 103, .int 101, .int 116, .int 0]) (n := 4) (Nat.le_of_ble_eq_true rfl)
  rw [lg_entry_eq]
  generalize (lg_sl ([.int 103, .int 101, .int 116, .int 0]) ++ List.replicate (4 - (lg_sl ([.int 103, .int 101, .int 116, .int 0])).length) Slot.unset).toArray = ls at hl ⊢
  have hl : lv_has ls 4 [(0, .int 103), (1, .int 101), (2, .int 116), (3, .int 0)] := hl
  refine lv_iload_n hx hb dX12_word_0 rfl (lv_at hl 0 rfl) ?_
  refine lv_sipush (v := 128) hx hb dX12_word_1 (by decide) ?_
  refine lv_imul hx hb dX12_word_4 ?_
  refine lv_nmi (y := 13184) (by decide +kernel) ?_
  refine lv_iload_n hx hb dX12_word_5 rfl (lv_at hl 1 rfl) ?_
  refine lv_iadd hx hb dX12_word_6 ?_
  refine lv_nmi (y := 13285) (by decide +kernel) ?_
  refine lv_sipush (v := 128) hx hb dX12_word_7 (by decide) ?_
  refine lv_imul hx hb dX12_word_10 ?_
  refine lv_nmi (y := 1700480) (by decide +kernel) ?_
  refine lv_iload_n hx hb dX12_word_11 rfl (lv_at hl 2 rfl) ?_
  refine lv_iadd hx hb dX12_word_12 ?_
  refine lv_nmi (y := 1700596) (by decide +kernel) ?_
  refine lv_sipush (v := 128) hx hb dX12_word_13 (by decide) ?_
  refine lv_imul hx hb dX12_word_16 ?_
  refine lv_nmi (y := 217676288) (by decide +kernel) ?_
  refine lv_iload_n hx hb dX12_word_17 rfl (lv_at hl 3 rfl) ?_
  refine lv_iadd hx hb dX12_word_18 ?_
  refine lv_nmi (y := 217676288) (by decide +kernel) ?_
  refine W.widen (k := 0) (n := 0) (Nat.le_of_ble_eq_true rfl) (Nat.le_of_ble_eq_true rfl) ?_
  exact W.iret (v := 217676288) hx hb hr (fun t ht hW => ⟨⟨217676288, (), rfl, rfl, by rw [ht]; exact hP, va_K.moved hW.alike hK, hD⟩, hS.F ht⟩) hS.2.2 dX12_word_19
set_option maxHeartbeats 4000000 in
set_option maxRecDepth 100000 in
theorem tX12_word_n5 (l : Launch) (dC : Nat → ClassId) (dI : Nat → Nat → Nat) (sz : Nat) : Met l yX12_word (.code yX12_word cX12_word 4 (some .int) :: wP) ({ frames := 0, cells := 0, slots := 0, locals := 0 }) (Pz dC dI [.int 99, .int 111, .int 112, .int 121] sz [] []) (va_Qi (fun (r : Int32) (_ : Unit) => r = 209451129) (fun (_ : Unit) (t : State) => va_P (dC, dI) vC [] t.heap ∧ va_K (dC, dI) vC [] t ∧ va_D (va_A [] sz) []) (va_A [] sz)) 0 0 (va_A [] sz) := by
  refine Met.ofW (cc := cX12_word) (maxL := 4) (ret := (some .int)) (by decide) rfl ?_
  intro p e s m args below meth c s₁ B hml hv
  obtain ⟨rfl, hsz, hP, hK, hD0⟩ := hv
  have hx := B.exec
  have hb := B.bytes
  have hr := B.returns
  have hts := atoms_spec (ws := .code yX12_word cX12_word 4 (some .int) :: wP) B.pre
  have hw : ∀ w ∈ wP, w.before _ s = true := fun w h => hts w (List.mem_cons_of_mem _ h)
  have hown : s.vm.findClass RX12 = some m.cls := findClass_of_methodNamed B.named
  have hlocks := B.notSynchronized
  subst hsz
  have hD := hD0.self (sz := s.heap.size)
  generalize hAe : va_A [] s.heap.size = A at hD ⊢
  have hA : ∀ q : Nat, s.heap.size ≤ q → A q := fun q h => by rw [← hAe]; exact Or.inr h
  have hS : va_S A s.heap s.heap [] := va_S.rf
  have hP : va_P (dC, dI) vC [] s.heap := hP
  have hl := lv_entry ([.int 99, .int 111, .int 112, .int 121]) (n := 4) (Nat.le_of_ble_eq_true rfl)
  rw [lg_entry_eq]
  generalize (lg_sl ([.int 99, .int 111, .int 112, .int 121]) ++ List.replicate (4 - (lg_sl ([.int 99, .int 111, .int 112, .int 121])).length) Slot.unset).toArray = ls at hl ⊢
  have hl : lv_has ls 4 [(0, .int 99), (1, .int 111), (2, .int 112), (3, .int 121)] := hl
  refine lv_iload_n hx hb dX12_word_0 rfl (lv_at hl 0 rfl) ?_
  refine lv_sipush (v := 128) hx hb dX12_word_1 (by decide) ?_
  refine lv_imul hx hb dX12_word_4 ?_
  refine lv_nmi (y := 12672) (by decide +kernel) ?_
  refine lv_iload_n hx hb dX12_word_5 rfl (lv_at hl 1 rfl) ?_
  refine lv_iadd hx hb dX12_word_6 ?_
  refine lv_nmi (y := 12783) (by decide +kernel) ?_
  refine lv_sipush (v := 128) hx hb dX12_word_7 (by decide) ?_
  refine lv_imul hx hb dX12_word_10 ?_
  refine lv_nmi (y := 1636224) (by decide +kernel) ?_
  refine lv_iload_n hx hb dX12_word_11 rfl (lv_at hl 2 rfl) ?_
  refine lv_iadd hx hb dX12_word_12 ?_
  refine lv_nmi (y := 1636336) (by decide +kernel) ?_
  refine lv_sipush (v := 128) hx hb dX12_word_13 (by decide) ?_
  refine lv_imul hx hb dX12_word_16 ?_
  refine lv_nmi (y := 209451008) (by decide +kernel) ?_
  refine lv_iload_n hx hb dX12_word_17 rfl (lv_at hl 3 rfl) ?_
  refine lv_iadd hx hb dX12_word_18 ?_
  refine lv_nmi (y := 209451129) (by decide +kernel) ?_
  refine W.widen (k := 0) (n := 0) (Nat.le_of_ble_eq_true rfl) (Nat.le_of_ble_eq_true rfl) ?_
  exact W.iret (v := 209451129) hx hb hr (fun t ht hW => ⟨⟨209451129, (), rfl, rfl, by rw [ht]; exact hP, va_K.moved hW.alike hK, hD⟩, hS.F ht⟩) hS.2.2 dX12_word_19
set_option maxHeartbeats 4000000 in
set_option maxRecDepth 100000 in
theorem tX12_word_n6 (l : Launch) (dC : Nat → ClassId) (dI : Nat → Nat → Nat) (sz : Nat) : Met l yX12_word (.code yX12_word cX12_word 4 (some .int) :: wP) ({ frames := 0, cells := 0, slots := 0, locals := 0 }) (Pz dC dI [.int 110, .int 101, .int 103, .int 0] sz [] []) (va_Qi (fun (r : Int32) (_ : Unit) => r = 232354688) (fun (_ : Unit) (t : State) => va_P (dC, dI) vC [] t.heap ∧ va_K (dC, dI) vC [] t ∧ va_D (va_A [] sz) []) (va_A [] sz)) 0 0 (va_A [] sz) := by
  refine Met.ofW (cc := cX12_word) (maxL := 4) (ret := (some .int)) (by decide) rfl ?_
  intro p e s m args below meth c s₁ B hml hv
  obtain ⟨rfl, hsz, hP, hK, hD0⟩ := hv
  have hx := B.exec
  have hb := B.bytes
  have hr := B.returns
  have hts := atoms_spec (ws := .code yX12_word cX12_word 4 (some .int) :: wP) B.pre
  have hw : ∀ w ∈ wP, w.before _ s = true := fun w h => hts w (List.mem_cons_of_mem _ h)
  have hown : s.vm.findClass RX12 = some m.cls := findClass_of_methodNamed B.named
  have hlocks := B.notSynchronized
  subst hsz
  have hD := hD0.self (sz := s.heap.size)
  generalize hAe : va_A [] s.heap.size = A at hD ⊢
  have hA : ∀ q : Nat, s.heap.size ≤ q → A q := fun q h => by rw [← hAe]; exact Or.inr h
  have hS : va_S A s.heap s.heap [] := va_S.rf
  have hP : va_P (dC, dI) vC [] s.heap := hP
  have hl := lv_entry ([.int 110, .int 101, .int 103, .int 0]) (n := 4) (Nat.le_of_ble_eq_true rfl)
  rw [lg_entry_eq]
  generalize (lg_sl ([.int 110, .int 101, .int 103, .int 0]) ++ List.replicate (4 - (lg_sl ([.int 110, .int 101, .int 103, .int 0])).length) Slot.unset).toArray = ls at hl ⊢
  have hl : lv_has ls 4 [(0, .int 110), (1, .int 101), (2, .int 103), (3, .int 0)] := hl
  refine lv_iload_n hx hb dX12_word_0 rfl (lv_at hl 0 rfl) ?_
  refine lv_sipush (v := 128) hx hb dX12_word_1 (by decide) ?_
  refine lv_imul hx hb dX12_word_4 ?_
  refine lv_nmi (y := 14080) (by decide +kernel) ?_
  refine lv_iload_n hx hb dX12_word_5 rfl (lv_at hl 1 rfl) ?_
  refine lv_iadd hx hb dX12_word_6 ?_
  refine lv_nmi (y := 14181) (by decide +kernel) ?_
  refine lv_sipush (v := 128) hx hb dX12_word_7 (by decide) ?_
  refine lv_imul hx hb dX12_word_10 ?_
  refine lv_nmi (y := 1815168) (by decide +kernel) ?_
  refine lv_iload_n hx hb dX12_word_11 rfl (lv_at hl 2 rfl) ?_
  refine lv_iadd hx hb dX12_word_12 ?_
  refine lv_nmi (y := 1815271) (by decide +kernel) ?_
  refine lv_sipush (v := 128) hx hb dX12_word_13 (by decide) ?_
  refine lv_imul hx hb dX12_word_16 ?_
  refine lv_nmi (y := 232354688) (by decide +kernel) ?_
  refine lv_iload_n hx hb dX12_word_17 rfl (lv_at hl 3 rfl) ?_
  refine lv_iadd hx hb dX12_word_18 ?_
  refine lv_nmi (y := 232354688) (by decide +kernel) ?_
  refine W.widen (k := 0) (n := 0) (Nat.le_of_ble_eq_true rfl) (Nat.le_of_ble_eq_true rfl) ?_
  exact W.iret (v := 232354688) hx hb hr (fun t ht hW => ⟨⟨232354688, (), rfl, rfl, by rw [ht]; exact hP, va_K.moved hW.alike hK, hD⟩, hS.F ht⟩) hS.2.2 dX12_word_19
set_option maxHeartbeats 4000000 in
set_option maxRecDepth 100000 in
theorem tX12_word_n7 (l : Launch) (dC : Nat → ClassId) (dI : Nat → Nat → Nat) (sz : Nat) : Met l yX12_word (.code yX12_word cX12_word 4 (some .int) :: wP) ({ frames := 0, cells := 0, slots := 0, locals := 0 }) (Pz dC dI [.int 110, .int 111, .int 116, .int 0] sz [] []) (va_Qi (fun (r : Int32) (_ : Unit) => r = 232520192) (fun (_ : Unit) (t : State) => va_P (dC, dI) vC [] t.heap ∧ va_K (dC, dI) vC [] t ∧ va_D (va_A [] sz) []) (va_A [] sz)) 0 0 (va_A [] sz) := by
  refine Met.ofW (cc := cX12_word) (maxL := 4) (ret := (some .int)) (by decide) rfl ?_
  intro p e s m args below meth c s₁ B hml hv
  obtain ⟨rfl, hsz, hP, hK, hD0⟩ := hv
  have hx := B.exec
  have hb := B.bytes
  have hr := B.returns
  have hts := atoms_spec (ws := .code yX12_word cX12_word 4 (some .int) :: wP) B.pre
  have hw : ∀ w ∈ wP, w.before _ s = true := fun w h => hts w (List.mem_cons_of_mem _ h)
  have hown : s.vm.findClass RX12 = some m.cls := findClass_of_methodNamed B.named
  have hlocks := B.notSynchronized
  subst hsz
  have hD := hD0.self (sz := s.heap.size)
  generalize hAe : va_A [] s.heap.size = A at hD ⊢
  have hA : ∀ q : Nat, s.heap.size ≤ q → A q := fun q h => by rw [← hAe]; exact Or.inr h
  have hS : va_S A s.heap s.heap [] := va_S.rf
  have hP : va_P (dC, dI) vC [] s.heap := hP
  have hl := lv_entry ([.int 110, .int 111, .int 116, .int 0]) (n := 4) (Nat.le_of_ble_eq_true rfl)
  rw [lg_entry_eq]
  generalize (lg_sl ([.int 110, .int 111, .int 116, .int 0]) ++ List.replicate (4 - (lg_sl ([.int 110, .int 111, .int 116, .int 0])).length) Slot.unset).toArray = ls at hl ⊢
  have hl : lv_has ls 4 [(0, .int 110), (1, .int 111), (2, .int 116), (3, .int 0)] := hl
  refine lv_iload_n hx hb dX12_word_0 rfl (lv_at hl 0 rfl) ?_
  refine lv_sipush (v := 128) hx hb dX12_word_1 (by decide) ?_
  refine lv_imul hx hb dX12_word_4 ?_
  refine lv_nmi (y := 14080) (by decide +kernel) ?_
  refine lv_iload_n hx hb dX12_word_5 rfl (lv_at hl 1 rfl) ?_
  refine lv_iadd hx hb dX12_word_6 ?_
  refine lv_nmi (y := 14191) (by decide +kernel) ?_
  refine lv_sipush (v := 128) hx hb dX12_word_7 (by decide) ?_
  refine lv_imul hx hb dX12_word_10 ?_
  refine lv_nmi (y := 1816448) (by decide +kernel) ?_
  refine lv_iload_n hx hb dX12_word_11 rfl (lv_at hl 2 rfl) ?_
  refine lv_iadd hx hb dX12_word_12 ?_
  refine lv_nmi (y := 1816564) (by decide +kernel) ?_
  refine lv_sipush (v := 128) hx hb dX12_word_13 (by decide) ?_
  refine lv_imul hx hb dX12_word_16 ?_
  refine lv_nmi (y := 232520192) (by decide +kernel) ?_
  refine lv_iload_n hx hb dX12_word_17 rfl (lv_at hl 3 rfl) ?_
  refine lv_iadd hx hb dX12_word_18 ?_
  refine lv_nmi (y := 232520192) (by decide +kernel) ?_
  refine W.widen (k := 0) (n := 0) (Nat.le_of_ble_eq_true rfl) (Nat.le_of_ble_eq_true rfl) ?_
  exact W.iret (v := 232520192) hx hb hr (fun t ht hW => ⟨⟨232520192, (), rfl, rfl, by rw [ht]; exact hP, va_K.moved hW.alike hK, hD⟩, hS.F ht⟩) hS.2.2 dX12_word_19
set_option maxHeartbeats 4000000 in
set_option maxRecDepth 100000 in
theorem tX12_word_n8 (l : Launch) (dC : Nat → ClassId) (dI : Nat → Nat → Nat) (sz : Nat) : Met l yX12_word (.code yX12_word cX12_word 4 (some .int) :: wP) ({ frames := 0, cells := 0, slots := 0, locals := 0 }) (Pz dC dI [.int 97, .int 100, .int 100, .int 0] sz [] []) (va_Qi (fun (r : Int32) (_ : Unit) => r = 205074944) (fun (_ : Unit) (t : State) => va_P (dC, dI) vC [] t.heap ∧ va_K (dC, dI) vC [] t ∧ va_D (va_A [] sz) []) (va_A [] sz)) 0 0 (va_A [] sz) := by
  refine Met.ofW (cc := cX12_word) (maxL := 4) (ret := (some .int)) (by decide) rfl ?_
  intro p e s m args below meth c s₁ B hml hv
  obtain ⟨rfl, hsz, hP, hK, hD0⟩ := hv
  have hx := B.exec
  have hb := B.bytes
  have hr := B.returns
  have hts := atoms_spec (ws := .code yX12_word cX12_word 4 (some .int) :: wP) B.pre
  have hw : ∀ w ∈ wP, w.before _ s = true := fun w h => hts w (List.mem_cons_of_mem _ h)
  have hown : s.vm.findClass RX12 = some m.cls := findClass_of_methodNamed B.named
  have hlocks := B.notSynchronized
  subst hsz
  have hD := hD0.self (sz := s.heap.size)
  generalize hAe : va_A [] s.heap.size = A at hD ⊢
  have hA : ∀ q : Nat, s.heap.size ≤ q → A q := fun q h => by rw [← hAe]; exact Or.inr h
  have hS : va_S A s.heap s.heap [] := va_S.rf
  have hP : va_P (dC, dI) vC [] s.heap := hP
  have hl := lv_entry ([.int 97, .int 100, .int 100, .int 0]) (n := 4) (Nat.le_of_ble_eq_true rfl)
  rw [lg_entry_eq]
  generalize (lg_sl ([.int 97, .int 100, .int 100, .int 0]) ++ List.replicate (4 - (lg_sl ([.int 97, .int 100, .int 100, .int 0])).length) Slot.unset).toArray = ls at hl ⊢
  have hl : lv_has ls 4 [(0, .int 97), (1, .int 100), (2, .int 100), (3, .int 0)] := hl
  refine lv_iload_n hx hb dX12_word_0 rfl (lv_at hl 0 rfl) ?_
  refine lv_sipush (v := 128) hx hb dX12_word_1 (by decide) ?_
  refine lv_imul hx hb dX12_word_4 ?_
  refine lv_nmi (y := 12416) (by decide +kernel) ?_
  refine lv_iload_n hx hb dX12_word_5 rfl (lv_at hl 1 rfl) ?_
  refine lv_iadd hx hb dX12_word_6 ?_
  refine lv_nmi (y := 12516) (by decide +kernel) ?_
  refine lv_sipush (v := 128) hx hb dX12_word_7 (by decide) ?_
  refine lv_imul hx hb dX12_word_10 ?_
  refine lv_nmi (y := 1602048) (by decide +kernel) ?_
  refine lv_iload_n hx hb dX12_word_11 rfl (lv_at hl 2 rfl) ?_
  refine lv_iadd hx hb dX12_word_12 ?_
  refine lv_nmi (y := 1602148) (by decide +kernel) ?_
  refine lv_sipush (v := 128) hx hb dX12_word_13 (by decide) ?_
  refine lv_imul hx hb dX12_word_16 ?_
  refine lv_nmi (y := 205074944) (by decide +kernel) ?_
  refine lv_iload_n hx hb dX12_word_17 rfl (lv_at hl 3 rfl) ?_
  refine lv_iadd hx hb dX12_word_18 ?_
  refine lv_nmi (y := 205074944) (by decide +kernel) ?_
  refine W.widen (k := 0) (n := 0) (Nat.le_of_ble_eq_true rfl) (Nat.le_of_ble_eq_true rfl) ?_
  exact W.iret (v := 205074944) hx hb hr (fun t ht hW => ⟨⟨205074944, (), rfl, rfl, by rw [ht]; exact hP, va_K.moved hW.alike hK, hD⟩, hS.F ht⟩) hS.2.2 dX12_word_19
set_option maxHeartbeats 4000000 in
set_option maxRecDepth 100000 in
theorem tX12_word_n9 (l : Launch) (dC : Nat → ClassId) (dI : Nat → Nat → Nat) (sz : Nat) : Met l yX12_word (.code yX12_word cX12_word 4 (some .int) :: wP) ({ frames := 0, cells := 0, slots := 0, locals := 0 }) (Pz dC dI [.int 115, .int 117, .int 98, .int 0] sz [] []) (va_Qi (fun (r : Int32) (_ : Unit) => r = 243101952) (fun (_ : Unit) (t : State) => va_P (dC, dI) vC [] t.heap ∧ va_K (dC, dI) vC [] t ∧ va_D (va_A [] sz) []) (va_A [] sz)) 0 0 (va_A [] sz) := by
  refine Met.ofW (cc := cX12_word) (maxL := 4) (ret := (some .int)) (by decide) rfl ?_
  intro p e s m args below meth c s₁ B hml hv
  obtain ⟨rfl, hsz, hP, hK, hD0⟩ := hv
  have hx := B.exec
  have hb := B.bytes
  have hr := B.returns
  have hts := atoms_spec (ws := .code yX12_word cX12_word 4 (some .int) :: wP) B.pre
  have hw : ∀ w ∈ wP, w.before _ s = true := fun w h => hts w (List.mem_cons_of_mem _ h)
  have hown : s.vm.findClass RX12 = some m.cls := findClass_of_methodNamed B.named
  have hlocks := B.notSynchronized
  subst hsz
  have hD := hD0.self (sz := s.heap.size)
  generalize hAe : va_A [] s.heap.size = A at hD ⊢
  have hA : ∀ q : Nat, s.heap.size ≤ q → A q := fun q h => by rw [← hAe]; exact Or.inr h
  have hS : va_S A s.heap s.heap [] := va_S.rf
  have hP : va_P (dC, dI) vC [] s.heap := hP
  have hl := lv_entry ([.int 115, .int 117, .int 98, .int 0]) (n := 4) (Nat.le_of_ble_eq_true rfl)
  rw [lg_entry_eq]
  generalize (lg_sl ([.int 115, .int 117, .int 98, .int 0]) ++ List.replicate (4 - (lg_sl ([.int 115, .int 117, .int 98, .int 0])).length) Slot.unset).toArray = ls at hl ⊢
  have hl : lv_has ls 4 [(0, .int 115), (1, .int 117), (2, .int 98), (3, .int 0)] := hl
  refine lv_iload_n hx hb dX12_word_0 rfl (lv_at hl 0 rfl) ?_
  refine lv_sipush (v := 128) hx hb dX12_word_1 (by decide) ?_
  refine lv_imul hx hb dX12_word_4 ?_
  refine lv_nmi (y := 14720) (by decide +kernel) ?_
  refine lv_iload_n hx hb dX12_word_5 rfl (lv_at hl 1 rfl) ?_
  refine lv_iadd hx hb dX12_word_6 ?_
  refine lv_nmi (y := 14837) (by decide +kernel) ?_
  refine lv_sipush (v := 128) hx hb dX12_word_7 (by decide) ?_
  refine lv_imul hx hb dX12_word_10 ?_
  refine lv_nmi (y := 1899136) (by decide +kernel) ?_
  refine lv_iload_n hx hb dX12_word_11 rfl (lv_at hl 2 rfl) ?_
  refine lv_iadd hx hb dX12_word_12 ?_
  refine lv_nmi (y := 1899234) (by decide +kernel) ?_
  refine lv_sipush (v := 128) hx hb dX12_word_13 (by decide) ?_
  refine lv_imul hx hb dX12_word_16 ?_
  refine lv_nmi (y := 243101952) (by decide +kernel) ?_
  refine lv_iload_n hx hb dX12_word_17 rfl (lv_at hl 3 rfl) ?_
  refine lv_iadd hx hb dX12_word_18 ?_
  refine lv_nmi (y := 243101952) (by decide +kernel) ?_
  refine W.widen (k := 0) (n := 0) (Nat.le_of_ble_eq_true rfl) (Nat.le_of_ble_eq_true rfl) ?_
  exact W.iret (v := 243101952) hx hb hr (fun t ht hW => ⟨⟨243101952, (), rfl, rfl, by rw [ht]; exact hP, va_K.moved hW.alike hK, hD⟩, hS.F ht⟩) hS.2.2 dX12_word_19
set_option maxHeartbeats 4000000 in
set_option maxRecDepth 100000 in
theorem tX12_word_n10 (l : Launch) (dC : Nat → ClassId) (dI : Nat → Nat → Nat) (sz : Nat) : Met l yX12_word (.code yX12_word cX12_word 4 (some .int) :: wP) ({ frames := 0, cells := 0, slots := 0, locals := 0 }) (Pz dC dI [.int 109, .int 117, .int 108, .int 0] sz [] []) (va_Qi (fun (r : Int32) (_ : Unit) => r = 230520320) (fun (_ : Unit) (t : State) => va_P (dC, dI) vC [] t.heap ∧ va_K (dC, dI) vC [] t ∧ va_D (va_A [] sz) []) (va_A [] sz)) 0 0 (va_A [] sz) := by
  refine Met.ofW (cc := cX12_word) (maxL := 4) (ret := (some .int)) (by decide) rfl ?_
  intro p e s m args below meth c s₁ B hml hv
  obtain ⟨rfl, hsz, hP, hK, hD0⟩ := hv
  have hx := B.exec
  have hb := B.bytes
  have hr := B.returns
  have hts := atoms_spec (ws := .code yX12_word cX12_word 4 (some .int) :: wP) B.pre
  have hw : ∀ w ∈ wP, w.before _ s = true := fun w h => hts w (List.mem_cons_of_mem _ h)
  have hown : s.vm.findClass RX12 = some m.cls := findClass_of_methodNamed B.named
  have hlocks := B.notSynchronized
  subst hsz
  have hD := hD0.self (sz := s.heap.size)
  generalize hAe : va_A [] s.heap.size = A at hD ⊢
  have hA : ∀ q : Nat, s.heap.size ≤ q → A q := fun q h => by rw [← hAe]; exact Or.inr h
  have hS : va_S A s.heap s.heap [] := va_S.rf
  have hP : va_P (dC, dI) vC [] s.heap := hP
  have hl := lv_entry ([.int 109, .int 117, .int 108, .int 0]) (n := 4) (Nat.le_of_ble_eq_true rfl)
  rw [lg_entry_eq]
  generalize (lg_sl ([.int 109, .int 117, .int 108, .int 0]) ++ List.replicate (4 - (lg_sl ([.int 109, .int 117, .int 108, .int 0])).length) Slot.unset).toArray = ls at hl ⊢
  have hl : lv_has ls 4 [(0, .int 109), (1, .int 117), (2, .int 108), (3, .int 0)] := hl
  refine lv_iload_n hx hb dX12_word_0 rfl (lv_at hl 0 rfl) ?_
  refine lv_sipush (v := 128) hx hb dX12_word_1 (by decide) ?_
  refine lv_imul hx hb dX12_word_4 ?_
  refine lv_nmi (y := 13952) (by decide +kernel) ?_
  refine lv_iload_n hx hb dX12_word_5 rfl (lv_at hl 1 rfl) ?_
  refine lv_iadd hx hb dX12_word_6 ?_
  refine lv_nmi (y := 14069) (by decide +kernel) ?_
  refine lv_sipush (v := 128) hx hb dX12_word_7 (by decide) ?_
  refine lv_imul hx hb dX12_word_10 ?_
  refine lv_nmi (y := 1800832) (by decide +kernel) ?_
  refine lv_iload_n hx hb dX12_word_11 rfl (lv_at hl 2 rfl) ?_
  refine lv_iadd hx hb dX12_word_12 ?_
  refine lv_nmi (y := 1800940) (by decide +kernel) ?_
  refine lv_sipush (v := 128) hx hb dX12_word_13 (by decide) ?_
  refine lv_imul hx hb dX12_word_16 ?_
  refine lv_nmi (y := 230520320) (by decide +kernel) ?_
  refine lv_iload_n hx hb dX12_word_17 rfl (lv_at hl 3 rfl) ?_
  refine lv_iadd hx hb dX12_word_18 ?_
  refine lv_nmi (y := 230520320) (by decide +kernel) ?_
  refine W.widen (k := 0) (n := 0) (Nat.le_of_ble_eq_true rfl) (Nat.le_of_ble_eq_true rfl) ?_
  exact W.iret (v := 230520320) hx hb hr (fun t ht hW => ⟨⟨230520320, (), rfl, rfl, by rw [ht]; exact hP, va_K.moved hW.alike hK, hD⟩, hS.F ht⟩) hS.2.2 dX12_word_19
set_option maxHeartbeats 4000000 in
set_option maxRecDepth 100000 in
theorem tX12_word_n11 (l : Launch) (dC : Nat → ClassId) (dI : Nat → Nat → Nat) (sz : Nat) : Met l yX12_word (.code yX12_word cX12_word 4 (some .int) :: wP) ({ frames := 0, cells := 0, slots := 0, locals := 0 }) (Pz dC dI [.int 100, .int 105, .int 118, .int 0] sz [] []) (va_Qi (fun (r : Int32) (_ : Unit) => r = 211450624) (fun (_ : Unit) (t : State) => va_P (dC, dI) vC [] t.heap ∧ va_K (dC, dI) vC [] t ∧ va_D (va_A [] sz) []) (va_A [] sz)) 0 0 (va_A [] sz) := by
  refine Met.ofW (cc := cX12_word) (maxL := 4) (ret := (some .int)) (by decide) rfl ?_
  intro p e s m args below meth c s₁ B hml hv
  obtain ⟨rfl, hsz, hP, hK, hD0⟩ := hv
  have hx := B.exec
  have hb := B.bytes
  have hr := B.returns
  have hts := atoms_spec (ws := .code yX12_word cX12_word 4 (some .int) :: wP) B.pre
  have hw : ∀ w ∈ wP, w.before _ s = true := fun w h => hts w (List.mem_cons_of_mem _ h)
  have hown : s.vm.findClass RX12 = some m.cls := findClass_of_methodNamed B.named
  have hlocks := B.notSynchronized
  subst hsz
  have hD := hD0.self (sz := s.heap.size)
  generalize hAe : va_A [] s.heap.size = A at hD ⊢
  have hA : ∀ q : Nat, s.heap.size ≤ q → A q := fun q h => by rw [← hAe]; exact Or.inr h
  have hS : va_S A s.heap s.heap [] := va_S.rf
  have hP : va_P (dC, dI) vC [] s.heap := hP
  have hl := lv_entry ([.int 100, .int 105, .int 118, .int 0]) (n := 4) (Nat.le_of_ble_eq_true rfl)
  rw [lg_entry_eq]
  generalize (lg_sl ([.int 100, .int 105, .int 118, .int 0]) ++ List.replicate (4 - (lg_sl ([.int 100, .int 105, .int 118, .int 0])).length) Slot.unset).toArray = ls at hl ⊢
  have hl : lv_has ls 4 [(0, .int 100), (1, .int 105), (2, .int 118), (3, .int 0)] := hl
  refine lv_iload_n hx hb dX12_word_0 rfl (lv_at hl 0 rfl) ?_
  refine lv_sipush (v := 128) hx hb dX12_word_1 (by decide) ?_
  refine lv_imul hx hb dX12_word_4 ?_
  refine lv_nmi (y := 12800) (by decide +kernel) ?_
  refine lv_iload_n hx hb dX12_word_5 rfl (lv_at hl 1 rfl) ?_
  refine lv_iadd hx hb dX12_word_6 ?_
  refine lv_nmi (y := 12905) (by decide +kernel) ?_
  refine lv_sipush (v := 128) hx hb dX12_word_7 (by decide) ?_
  refine lv_imul hx hb dX12_word_10 ?_
  refine lv_nmi (y := 1651840) (by decide +kernel) ?_
  refine lv_iload_n hx hb dX12_word_11 rfl (lv_at hl 2 rfl) ?_
  refine lv_iadd hx hb dX12_word_12 ?_
  refine lv_nmi (y := 1651958) (by decide +kernel) ?_
  refine lv_sipush (v := 128) hx hb dX12_word_13 (by decide) ?_
  refine lv_imul hx hb dX12_word_16 ?_
  refine lv_nmi (y := 211450624) (by decide +kernel) ?_
  refine lv_iload_n hx hb dX12_word_17 rfl (lv_at hl 3 rfl) ?_
  refine lv_iadd hx hb dX12_word_18 ?_
  refine lv_nmi (y := 211450624) (by decide +kernel) ?_
  refine W.widen (k := 0) (n := 0) (Nat.le_of_ble_eq_true rfl) (Nat.le_of_ble_eq_true rfl) ?_
  exact W.iret (v := 211450624) hx hb hr (fun t ht hW => ⟨⟨211450624, (), rfl, rfl, by rw [ht]; exact hP, va_K.moved hW.alike hK, hD⟩, hS.F ht⟩) hS.2.2 dX12_word_19
set_option maxHeartbeats 4000000 in
set_option maxRecDepth 100000 in
theorem tX12_word_n12 (l : Launch) (dC : Nat → ClassId) (dI : Nat → Nat → Nat) (sz : Nat) : Met l yX12_word (.code yX12_word cX12_word 4 (some .int) :: wP) ({ frames := 0, cells := 0, slots := 0, locals := 0 }) (Pz dC dI [.int 114, .int 101, .int 109, .int 0] sz [] []) (va_Qi (fun (r : Int32) (_ : Unit) => r = 240744064) (fun (_ : Unit) (t : State) => va_P (dC, dI) vC [] t.heap ∧ va_K (dC, dI) vC [] t ∧ va_D (va_A [] sz) []) (va_A [] sz)) 0 0 (va_A [] sz) := by
  refine Met.ofW (cc := cX12_word) (maxL := 4) (ret := (some .int)) (by decide) rfl ?_
  intro p e s m args below meth c s₁ B hml hv
  obtain ⟨rfl, hsz, hP, hK, hD0⟩ := hv
  have hx := B.exec
  have hb := B.bytes
  have hr := B.returns
  have hts := atoms_spec (ws := .code yX12_word cX12_word 4 (some .int) :: wP) B.pre
  have hw : ∀ w ∈ wP, w.before _ s = true := fun w h => hts w (List.mem_cons_of_mem _ h)
  have hown : s.vm.findClass RX12 = some m.cls := findClass_of_methodNamed B.named
  have hlocks := B.notSynchronized
  subst hsz
  have hD := hD0.self (sz := s.heap.size)
  generalize hAe : va_A [] s.heap.size = A at hD ⊢
  have hA : ∀ q : Nat, s.heap.size ≤ q → A q := fun q h => by rw [← hAe]; exact Or.inr h
  have hS : va_S A s.heap s.heap [] := va_S.rf
  have hP : va_P (dC, dI) vC [] s.heap := hP
  have hl := lv_entry ([.int 114, .int 101, .int 109, .int 0]) (n := 4) (Nat.le_of_ble_eq_true rfl)
  rw [lg_entry_eq]
  generalize (lg_sl ([.int 114, .int 101, .int 109, .int 0]) ++ List.replicate (4 - (lg_sl ([.int 114, .int 101, .int 109, .int 0])).length) Slot.unset).toArray = ls at hl ⊢
  have hl : lv_has ls 4 [(0, .int 114), (1, .int 101), (2, .int 109), (3, .int 0)] := hl
  refine lv_iload_n hx hb dX12_word_0 rfl (lv_at hl 0 rfl) ?_
  refine lv_sipush (v := 128) hx hb dX12_word_1 (by decide) ?_
  refine lv_imul hx hb dX12_word_4 ?_
  refine lv_nmi (y := 14592) (by decide +kernel) ?_
  refine lv_iload_n hx hb dX12_word_5 rfl (lv_at hl 1 rfl) ?_
  refine lv_iadd hx hb dX12_word_6 ?_
  refine lv_nmi (y := 14693) (by decide +kernel) ?_
  refine lv_sipush (v := 128) hx hb dX12_word_7 (by decide) ?_
  refine lv_imul hx hb dX12_word_10 ?_
  refine lv_nmi (y := 1880704) (by decide +kernel) ?_
  refine lv_iload_n hx hb dX12_word_11 rfl (lv_at hl 2 rfl) ?_
  refine lv_iadd hx hb dX12_word_12 ?_
  refine lv_nmi (y := 1880813) (by decide +kernel) ?_
  refine lv_sipush (v := 128) hx hb dX12_word_13 (by decide) ?_
  refine lv_imul hx hb dX12_word_16 ?_
  refine lv_nmi (y := 240744064) (by decide +kernel) ?_
  refine lv_iload_n hx hb dX12_word_17 rfl (lv_at hl 3 rfl) ?_
  refine lv_iadd hx hb dX12_word_18 ?_
  refine lv_nmi (y := 240744064) (by decide +kernel) ?_
  refine W.widen (k := 0) (n := 0) (Nat.le_of_ble_eq_true rfl) (Nat.le_of_ble_eq_true rfl) ?_
  exact W.iret (v := 240744064) hx hb hr (fun t ht hW => ⟨⟨240744064, (), rfl, rfl, by rw [ht]; exact hP, va_K.moved hW.alike hK, hD⟩, hS.F ht⟩) hS.2.2 dX12_word_19
set_option maxHeartbeats 4000000 in
set_option maxRecDepth 100000 in
theorem tX12_word_n13 (l : Launch) (dC : Nat → ClassId) (dI : Nat → Nat → Nat) (sz : Nat) : Met l yX12_word (.code yX12_word cX12_word 4 (some .int) :: wP) ({ frames := 0, cells := 0, slots := 0, locals := 0 }) (Pz dC dI [.int 97, .int 110, .int 100, .int 0] sz [] []) (va_Qi (fun (r : Int32) (_ : Unit) => r = 205238784) (fun (_ : Unit) (t : State) => va_P (dC, dI) vC [] t.heap ∧ va_K (dC, dI) vC [] t ∧ va_D (va_A [] sz) []) (va_A [] sz)) 0 0 (va_A [] sz) := by
  refine Met.ofW (cc := cX12_word) (maxL := 4) (ret := (some .int)) (by decide) rfl ?_
  intro p e s m args below meth c s₁ B hml hv
  obtain ⟨rfl, hsz, hP, hK, hD0⟩ := hv
  have hx := B.exec
  have hb := B.bytes
  have hr := B.returns
  have hts := atoms_spec (ws := .code yX12_word cX12_word 4 (some .int) :: wP) B.pre
  have hw : ∀ w ∈ wP, w.before _ s = true := fun w h => hts w (List.mem_cons_of_mem _ h)
  have hown : s.vm.findClass RX12 = some m.cls := findClass_of_methodNamed B.named
  have hlocks := B.notSynchronized
  subst hsz
  have hD := hD0.self (sz := s.heap.size)
  generalize hAe : va_A [] s.heap.size = A at hD ⊢
  have hA : ∀ q : Nat, s.heap.size ≤ q → A q := fun q h => by rw [← hAe]; exact Or.inr h
  have hS : va_S A s.heap s.heap [] := va_S.rf
  have hP : va_P (dC, dI) vC [] s.heap := hP
  have hl := lv_entry ([.int 97, .int 110, .int 100, .int 0]) (n := 4) (Nat.le_of_ble_eq_true rfl)
  rw [lg_entry_eq]
  generalize (lg_sl ([.int 97, .int 110, .int 100, .int 0]) ++ List.replicate (4 - (lg_sl ([.int 97, .int 110, .int 100, .int 0])).length) Slot.unset).toArray = ls at hl ⊢
  have hl : lv_has ls 4 [(0, .int 97), (1, .int 110), (2, .int 100), (3, .int 0)] := hl
  refine lv_iload_n hx hb dX12_word_0 rfl (lv_at hl 0 rfl) ?_
  refine lv_sipush (v := 128) hx hb dX12_word_1 (by decide) ?_
  refine lv_imul hx hb dX12_word_4 ?_
  refine lv_nmi (y := 12416) (by decide +kernel) ?_
  refine lv_iload_n hx hb dX12_word_5 rfl (lv_at hl 1 rfl) ?_
  refine lv_iadd hx hb dX12_word_6 ?_
  refine lv_nmi (y := 12526) (by decide +kernel) ?_
  refine lv_sipush (v := 128) hx hb dX12_word_7 (by decide) ?_
  refine lv_imul hx hb dX12_word_10 ?_
  refine lv_nmi (y := 1603328) (by decide +kernel) ?_
  refine lv_iload_n hx hb dX12_word_11 rfl (lv_at hl 2 rfl) ?_
  refine lv_iadd hx hb dX12_word_12 ?_
  refine lv_nmi (y := 1603428) (by decide +kernel) ?_
  refine lv_sipush (v := 128) hx hb dX12_word_13 (by decide) ?_
  refine lv_imul hx hb dX12_word_16 ?_
  refine lv_nmi (y := 205238784) (by decide +kernel) ?_
  refine lv_iload_n hx hb dX12_word_17 rfl (lv_at hl 3 rfl) ?_
  refine lv_iadd hx hb dX12_word_18 ?_
  refine lv_nmi (y := 205238784) (by decide +kernel) ?_
  refine W.widen (k := 0) (n := 0) (Nat.le_of_ble_eq_true rfl) (Nat.le_of_ble_eq_true rfl) ?_
  exact W.iret (v := 205238784) hx hb hr (fun t ht hW => ⟨⟨205238784, (), rfl, rfl, by rw [ht]; exact hP, va_K.moved hW.alike hK, hD⟩, hS.F ht⟩) hS.2.2 dX12_word_19
set_option maxHeartbeats 4000000 in
set_option maxRecDepth 100000 in
theorem tX12_word_n14 (l : Launch) (dC : Nat → ClassId) (dI : Nat → Nat → Nat) (sz : Nat) : Met l yX12_word (.code yX12_word cX12_word 4 (some .int) :: wP) ({ frames := 0, cells := 0, slots := 0, locals := 0 }) (Pz dC dI [.int 111, .int 114, .int 0, .int 0] sz [] []) (va_Qi (fun (r : Int32) (_ : Unit) => r = 234651648) (fun (_ : Unit) (t : State) => va_P (dC, dI) vC [] t.heap ∧ va_K (dC, dI) vC [] t ∧ va_D (va_A [] sz) []) (va_A [] sz)) 0 0 (va_A [] sz) := by
  refine Met.ofW (cc := cX12_word) (maxL := 4) (ret := (some .int)) (by decide) rfl ?_
  intro p e s m args below meth c s₁ B hml hv
  obtain ⟨rfl, hsz, hP, hK, hD0⟩ := hv
  have hx := B.exec
  have hb := B.bytes
  have hr := B.returns
  have hts := atoms_spec (ws := .code yX12_word cX12_word 4 (some .int) :: wP) B.pre
  have hw : ∀ w ∈ wP, w.before _ s = true := fun w h => hts w (List.mem_cons_of_mem _ h)
  have hown : s.vm.findClass RX12 = some m.cls := findClass_of_methodNamed B.named
  have hlocks := B.notSynchronized
  subst hsz
  have hD := hD0.self (sz := s.heap.size)
  generalize hAe : va_A [] s.heap.size = A at hD ⊢
  have hA : ∀ q : Nat, s.heap.size ≤ q → A q := fun q h => by rw [← hAe]; exact Or.inr h
  have hS : va_S A s.heap s.heap [] := va_S.rf
  have hP : va_P (dC, dI) vC [] s.heap := hP
  have hl := lv_entry ([.int 111, .int 114, .int 0, .int 0]) (n := 4) (Nat.le_of_ble_eq_true rfl)
  rw [lg_entry_eq]
  generalize (lg_sl ([.int 111, .int 114, .int 0, .int 0]) ++ List.replicate (4 - (lg_sl ([.int 111, .int 114, .int 0, .int 0])).length) Slot.unset).toArray = ls at hl ⊢
  have hl : lv_has ls 4 [(0, .int 111), (1, .int 114), (2, .int 0), (3, .int 0)] := hl
  refine lv_iload_n hx hb dX12_word_0 rfl (lv_at hl 0 rfl) ?_
  refine lv_sipush (v := 128) hx hb dX12_word_1 (by decide) ?_
  refine lv_imul hx hb dX12_word_4 ?_
  refine lv_nmi (y := 14208) (by decide +kernel) ?_
  refine lv_iload_n hx hb dX12_word_5 rfl (lv_at hl 1 rfl) ?_
  refine lv_iadd hx hb dX12_word_6 ?_
  refine lv_nmi (y := 14322) (by decide +kernel) ?_
  refine lv_sipush (v := 128) hx hb dX12_word_7 (by decide) ?_
  refine lv_imul hx hb dX12_word_10 ?_
  refine lv_nmi (y := 1833216) (by decide +kernel) ?_
  refine lv_iload_n hx hb dX12_word_11 rfl (lv_at hl 2 rfl) ?_
  refine lv_iadd hx hb dX12_word_12 ?_
  refine lv_nmi (y := 1833216) (by decide +kernel) ?_
  refine lv_sipush (v := 128) hx hb dX12_word_13 (by decide) ?_
  refine lv_imul hx hb dX12_word_16 ?_
  refine lv_nmi (y := 234651648) (by decide +kernel) ?_
  refine lv_iload_n hx hb dX12_word_17 rfl (lv_at hl 3 rfl) ?_
  refine lv_iadd hx hb dX12_word_18 ?_
  refine lv_nmi (y := 234651648) (by decide +kernel) ?_
  refine W.widen (k := 0) (n := 0) (Nat.le_of_ble_eq_true rfl) (Nat.le_of_ble_eq_true rfl) ?_
  exact W.iret (v := 234651648) hx hb hr (fun t ht hW => ⟨⟨234651648, (), rfl, rfl, by rw [ht]; exact hP, va_K.moved hW.alike hK, hD⟩, hS.F ht⟩) hS.2.2 dX12_word_19
set_option maxHeartbeats 4000000 in
set_option maxRecDepth 100000 in
theorem tX12_word_n15 (l : Launch) (dC : Nat → ClassId) (dI : Nat → Nat → Nat) (sz : Nat) : Met l yX12_word (.code yX12_word cX12_word 4 (some .int) :: wP) ({ frames := 0, cells := 0, slots := 0, locals := 0 }) (Pz dC dI [.int 120, .int 111, .int 114, .int 0] sz [] []) (va_Qi (fun (r : Int32) (_ : Unit) => r = 253491456) (fun (_ : Unit) (t : State) => va_P (dC, dI) vC [] t.heap ∧ va_K (dC, dI) vC [] t ∧ va_D (va_A [] sz) []) (va_A [] sz)) 0 0 (va_A [] sz) := by
  refine Met.ofW (cc := cX12_word) (maxL := 4) (ret := (some .int)) (by decide) rfl ?_
  intro p e s m args below meth c s₁ B hml hv
  obtain ⟨rfl, hsz, hP, hK, hD0⟩ := hv
  have hx := B.exec
  have hb := B.bytes
  have hr := B.returns
  have hts := atoms_spec (ws := .code yX12_word cX12_word 4 (some .int) :: wP) B.pre
  have hw : ∀ w ∈ wP, w.before _ s = true := fun w h => hts w (List.mem_cons_of_mem _ h)
  have hown : s.vm.findClass RX12 = some m.cls := findClass_of_methodNamed B.named
  have hlocks := B.notSynchronized
  subst hsz
  have hD := hD0.self (sz := s.heap.size)
  generalize hAe : va_A [] s.heap.size = A at hD ⊢
  have hA : ∀ q : Nat, s.heap.size ≤ q → A q := fun q h => by rw [← hAe]; exact Or.inr h
  have hS : va_S A s.heap s.heap [] := va_S.rf
  have hP : va_P (dC, dI) vC [] s.heap := hP
  have hl := lv_entry ([.int 120, .int 111, .int 114, .int 0]) (n := 4) (Nat.le_of_ble_eq_true rfl)
  rw [lg_entry_eq]
  generalize (lg_sl ([.int 120, .int 111, .int 114, .int 0]) ++ List.replicate (4 - (lg_sl ([.int 120, .int 111, .int 114, .int 0])).length) Slot.unset).toArray = ls at hl ⊢
  have hl : lv_has ls 4 [(0, .int 120), (1, .int 111), (2, .int 114), (3, .int 0)] := hl
  refine lv_iload_n hx hb dX12_word_0 rfl (lv_at hl 0 rfl) ?_
  refine lv_sipush (v := 128) hx hb dX12_word_1 (by decide) ?_
  refine lv_imul hx hb dX12_word_4 ?_
  refine lv_nmi (y := 15360) (by decide +kernel) ?_
  refine lv_iload_n hx hb dX12_word_5 rfl (lv_at hl 1 rfl) ?_
  refine lv_iadd hx hb dX12_word_6 ?_
  refine lv_nmi (y := 15471) (by decide +kernel) ?_
  refine lv_sipush (v := 128) hx hb dX12_word_7 (by decide) ?_
  refine lv_imul hx hb dX12_word_10 ?_
  refine lv_nmi (y := 1980288) (by decide +kernel) ?_
  refine lv_iload_n hx hb dX12_word_11 rfl (lv_at hl 2 rfl) ?_
  refine lv_iadd hx hb dX12_word_12 ?_
  refine lv_nmi (y := 1980402) (by decide +kernel) ?_
  refine lv_sipush (v := 128) hx hb dX12_word_13 (by decide) ?_
  refine lv_imul hx hb dX12_word_16 ?_
  refine lv_nmi (y := 253491456) (by decide +kernel) ?_
  refine lv_iload_n hx hb dX12_word_17 rfl (lv_at hl 3 rfl) ?_
  refine lv_iadd hx hb dX12_word_18 ?_
  refine lv_nmi (y := 253491456) (by decide +kernel) ?_
  refine W.widen (k := 0) (n := 0) (Nat.le_of_ble_eq_true rfl) (Nat.le_of_ble_eq_true rfl) ?_
  exact W.iret (v := 253491456) hx hb hr (fun t ht hW => ⟨⟨253491456, (), rfl, rfl, by rw [ht]; exact hP, va_K.moved hW.alike hK, hD⟩, hS.F ht⟩) hS.2.2 dX12_word_19
set_option maxHeartbeats 4000000 in
set_option maxRecDepth 100000 in
theorem tX12_word_n16 (l : Launch) (dC : Nat → ClassId) (dI : Nat → Nat → Nat) (sz : Nat) : Met l yX12_word (.code yX12_word cX12_word 4 (some .int) :: wP) ({ frames := 0, cells := 0, slots := 0, locals := 0 }) (Pz dC dI [.int 115, .int 104, .int 108, .int 0] sz [] []) (va_Qi (fun (r : Int32) (_ : Unit) => r = 242890240) (fun (_ : Unit) (t : State) => va_P (dC, dI) vC [] t.heap ∧ va_K (dC, dI) vC [] t ∧ va_D (va_A [] sz) []) (va_A [] sz)) 0 0 (va_A [] sz) := by
  refine Met.ofW (cc := cX12_word) (maxL := 4) (ret := (some .int)) (by decide) rfl ?_
  intro p e s m args below meth c s₁ B hml hv
  obtain ⟨rfl, hsz, hP, hK, hD0⟩ := hv
  have hx := B.exec
  have hb := B.bytes
  have hr := B.returns
  have hts := atoms_spec (ws := .code yX12_word cX12_word 4 (some .int) :: wP) B.pre
  have hw : ∀ w ∈ wP, w.before _ s = true := fun w h => hts w (List.mem_cons_of_mem _ h)
  have hown : s.vm.findClass RX12 = some m.cls := findClass_of_methodNamed B.named
  have hlocks := B.notSynchronized
  subst hsz
  have hD := hD0.self (sz := s.heap.size)
  generalize hAe : va_A [] s.heap.size = A at hD ⊢
  have hA : ∀ q : Nat, s.heap.size ≤ q → A q := fun q h => by rw [← hAe]; exact Or.inr h
  have hS : va_S A s.heap s.heap [] := va_S.rf
  have hP : va_P (dC, dI) vC [] s.heap := hP
  have hl := lv_entry ([.int 115, .int 104, .int 108, .int 0]) (n := 4) (Nat.le_of_ble_eq_true rfl)
  rw [lg_entry_eq]
  generalize (lg_sl ([.int 115, .int 104, .int 108, .int 0]) ++ List.replicate (4 - (lg_sl ([.int 115, .int 104, .int 108, .int 0])).length) Slot.unset).toArray = ls at hl ⊢
  have hl : lv_has ls 4 [(0, .int 115), (1, .int 104), (2, .int 108), (3, .int 0)] := hl
  refine lv_iload_n hx hb dX12_word_0 rfl (lv_at hl 0 rfl) ?_
  refine lv_sipush (v := 128) hx hb dX12_word_1 (by decide) ?_
  refine lv_imul hx hb dX12_word_4 ?_
  refine lv_nmi (y := 14720) (by decide +kernel) ?_
  refine lv_iload_n hx hb dX12_word_5 rfl (lv_at hl 1 rfl) ?_
  refine lv_iadd hx hb dX12_word_6 ?_
  refine lv_nmi (y := 14824) (by decide +kernel) ?_
  refine lv_sipush (v := 128) hx hb dX12_word_7 (by decide) ?_
  refine lv_imul hx hb dX12_word_10 ?_
  refine lv_nmi (y := 1897472) (by decide +kernel) ?_
  refine lv_iload_n hx hb dX12_word_11 rfl (lv_at hl 2 rfl) ?_
  refine lv_iadd hx hb dX12_word_12 ?_
  refine lv_nmi (y := 1897580) (by decide +kernel) ?_
  refine lv_sipush (v := 128) hx hb dX12_word_13 (by decide) ?_
  refine lv_imul hx hb dX12_word_16 ?_
  refine lv_nmi (y := 242890240) (by decide +kernel) ?_
  refine lv_iload_n hx hb dX12_word_17 rfl (lv_at hl 3 rfl) ?_
  refine lv_iadd hx hb dX12_word_18 ?_
  refine lv_nmi (y := 242890240) (by decide +kernel) ?_
  refine W.widen (k := 0) (n := 0) (Nat.le_of_ble_eq_true rfl) (Nat.le_of_ble_eq_true rfl) ?_
  exact W.iret (v := 242890240) hx hb hr (fun t ht hW => ⟨⟨242890240, (), rfl, rfl, by rw [ht]; exact hP, va_K.moved hW.alike hK, hD⟩, hS.F ht⟩) hS.2.2 dX12_word_19
set_option maxHeartbeats 4000000 in
set_option maxRecDepth 100000 in
theorem tX12_word_n17 (l : Launch) (dC : Nat → ClassId) (dI : Nat → Nat → Nat) (sz : Nat) : Met l yX12_word (.code yX12_word cX12_word 4 (some .int) :: wP) ({ frames := 0, cells := 0, slots := 0, locals := 0 }) (Pz dC dI [.int 115, .int 104, .int 114, .int 0] sz [] []) (va_Qi (fun (r : Int32) (_ : Unit) => r = 242891008) (fun (_ : Unit) (t : State) => va_P (dC, dI) vC [] t.heap ∧ va_K (dC, dI) vC [] t ∧ va_D (va_A [] sz) []) (va_A [] sz)) 0 0 (va_A [] sz) := by
  refine Met.ofW (cc := cX12_word) (maxL := 4) (ret := (some .int)) (by decide) rfl ?_
  intro p e s m args below meth c s₁ B hml hv
  obtain ⟨rfl, hsz, hP, hK, hD0⟩ := hv
  have hx := B.exec
  have hb := B.bytes
  have hr := B.returns
  have hts := atoms_spec (ws := .code yX12_word cX12_word 4 (some .int) :: wP) B.pre
  have hw : ∀ w ∈ wP, w.before _ s = true := fun w h => hts w (List.mem_cons_of_mem _ h)
  have hown : s.vm.findClass RX12 = some m.cls := findClass_of_methodNamed B.named
  have hlocks := B.notSynchronized
  subst hsz
  have hD := hD0.self (sz := s.heap.size)
  generalize hAe : va_A [] s.heap.size = A at hD ⊢
  have hA : ∀ q : Nat, s.heap.size ≤ q → A q := fun q h => by rw [← hAe]; exact Or.inr h
  have hS : va_S A s.heap s.heap [] := va_S.rf
  have hP : va_P (dC, dI) vC [] s.heap := hP
  have hl := lv_entry ([.int 115, .int 104, .int 114, .int 0]) (n := 4) (Nat.le_of_ble_eq_true rfl)
  rw [lg_entry_eq]
  generalize (lg_sl ([.int 115, .int 104, .int 114, .int 0]) ++ List.replicate (4 - (lg_sl ([.int 115, .int 104, .int 114, .int 0])).length) Slot.unset).toArray = ls at hl ⊢
  have hl : lv_has ls 4 [(0, .int 115), (1, .int 104), (2, .int 114), (3, .int 0)] := hl
  refine lv_iload_n hx hb dX12_word_0 rfl (lv_at hl 0 rfl) ?_
  refine lv_sipush (v := 128) hx hb dX12_word_1 (by decide) ?_
  refine lv_imul hx hb dX12_word_4 ?_
  refine lv_nmi (y := 14720) (by decide +kernel) ?_
  refine lv_iload_n hx hb dX12_word_5 rfl (lv_at hl 1 rfl) ?_
  refine lv_iadd hx hb dX12_word_6 ?_
  refine lv_nmi (y := 14824) (by decide +kernel) ?_
  refine lv_sipush (v := 128) hx hb dX12_word_7 (by decide) ?_
  refine lv_imul hx hb dX12_word_10 ?_
  refine lv_nmi (y := 1897472) (by decide +kernel) ?_
  refine lv_iload_n hx hb dX12_word_11 rfl (lv_at hl 2 rfl) ?_
  refine lv_iadd hx hb dX12_word_12 ?_
  refine lv_nmi (y := 1897586) (by decide +kernel) ?_
  refine lv_sipush (v := 128) hx hb dX12_word_13 (by decide) ?_
  refine lv_imul hx hb dX12_word_16 ?_
  refine lv_nmi (y := 242891008) (by decide +kernel) ?_
  refine lv_iload_n hx hb dX12_word_17 rfl (lv_at hl 3 rfl) ?_
  refine lv_iadd hx hb dX12_word_18 ?_
  refine lv_nmi (y := 242891008) (by decide +kernel) ?_
  refine W.widen (k := 0) (n := 0) (Nat.le_of_ble_eq_true rfl) (Nat.le_of_ble_eq_true rfl) ?_
  exact W.iret (v := 242891008) hx hb hr (fun t ht hW => ⟨⟨242891008, (), rfl, rfl, by rw [ht]; exact hP, va_K.moved hW.alike hK, hD⟩, hS.F ht⟩) hS.2.2 dX12_word_19
set_option maxHeartbeats 4000000 in
set_option maxRecDepth 100000 in
theorem tX12_word_n18 (l : Launch) (dC : Nat → ClassId) (dI : Nat → Nat → Nat) (sz : Nat) : Met l yX12_word (.code yX12_word cX12_word 4 (some .int) :: wP) ({ frames := 0, cells := 0, slots := 0, locals := 0 }) (Pz dC dI [.int 108, .int 116, .int 0, .int 0] sz [] []) (va_Qi (fun (r : Int32) (_ : Unit) => r = 228392960) (fun (_ : Unit) (t : State) => va_P (dC, dI) vC [] t.heap ∧ va_K (dC, dI) vC [] t ∧ va_D (va_A [] sz) []) (va_A [] sz)) 0 0 (va_A [] sz) := by
  refine Met.ofW (cc := cX12_word) (maxL := 4) (ret := (some .int)) (by decide) rfl ?_
  intro p e s m args below meth c s₁ B hml hv
  obtain ⟨rfl, hsz, hP, hK, hD0⟩ := hv
  have hx := B.exec
  have hb := B.bytes
  have hr := B.returns
  have hts := atoms_spec (ws := .code yX12_word cX12_word 4 (some .int) :: wP) B.pre
  have hw : ∀ w ∈ wP, w.before _ s = true := fun w h => hts w (List.mem_cons_of_mem _ h)
  have hown : s.vm.findClass RX12 = some m.cls := findClass_of_methodNamed B.named
  have hlocks := B.notSynchronized
  subst hsz
  have hD := hD0.self (sz := s.heap.size)
  generalize hAe : va_A [] s.heap.size = A at hD ⊢
  have hA : ∀ q : Nat, s.heap.size ≤ q → A q := fun q h => by rw [← hAe]; exact Or.inr h
  have hS : va_S A s.heap s.heap [] := va_S.rf
  have hP : va_P (dC, dI) vC [] s.heap := hP
  have hl := lv_entry ([.int 108, .int 116, .int 0, .int 0]) (n := 4) (Nat.le_of_ble_eq_true rfl)
  rw [lg_entry_eq]
  generalize (lg_sl ([.int 108, .int 116, .int 0, .int 0]) ++ List.replicate (4 - (lg_sl ([.int 108, .int 116, .int 0, .int 0])).length) Slot.unset).toArray = ls at hl ⊢
  have hl : lv_has ls 4 [(0, .int 108), (1, .int 116), (2, .int 0), (3, .int 0)] := hl
  refine lv_iload_n hx hb dX12_word_0 rfl (lv_at hl 0 rfl) ?_
  refine lv_sipush (v := 128) hx hb dX12_word_1 (by decide) ?_
  refine lv_imul hx hb dX12_word_4 ?_
  refine lv_nmi (y := 13824) (by decide +kernel) ?_
  refine lv_iload_n hx hb dX12_word_5 rfl (lv_at hl 1 rfl) ?_
  refine lv_iadd hx hb dX12_word_6 ?_
  refine lv_nmi (y := 13940) (by decide +kernel) ?_
  refine lv_sipush (v := 128) hx hb dX12_word_7 (by decide) ?_
  refine lv_imul hx hb dX12_word_10 ?_
  refine lv_nmi (y := 1784320) (by decide +kernel) ?_
  refine lv_iload_n hx hb dX12_word_11 rfl (lv_at hl 2 rfl) ?_
  refine lv_iadd hx hb dX12_word_12 ?_
  refine lv_nmi (y := 1784320) (by decide +kernel) ?_
  refine lv_sipush (v := 128) hx hb dX12_word_13 (by decide) ?_
  refine lv_imul hx hb dX12_word_16 ?_
  refine lv_nmi (y := 228392960) (by decide +kernel) ?_
  refine lv_iload_n hx hb dX12_word_17 rfl (lv_at hl 3 rfl) ?_
  refine lv_iadd hx hb dX12_word_18 ?_
  refine lv_nmi (y := 228392960) (by decide +kernel) ?_
  refine W.widen (k := 0) (n := 0) (Nat.le_of_ble_eq_true rfl) (Nat.le_of_ble_eq_true rfl) ?_
  exact W.iret (v := 228392960) hx hb hr (fun t ht hW => ⟨⟨228392960, (), rfl, rfl, by rw [ht]; exact hP, va_K.moved hW.alike hK, hD⟩, hS.F ht⟩) hS.2.2 dX12_word_19
set_option maxHeartbeats 4000000 in
set_option maxRecDepth 100000 in
theorem tX12_word_n19 (l : Launch) (dC : Nat → ClassId) (dI : Nat → Nat → Nat) (sz : Nat) : Met l yX12_word (.code yX12_word cX12_word 4 (some .int) :: wP) ({ frames := 0, cells := 0, slots := 0, locals := 0 }) (Pz dC dI [.int 101, .int 113, .int 0, .int 0] sz [] []) (va_Qi (fun (r : Int32) (_ : Unit) => r = 213663744) (fun (_ : Unit) (t : State) => va_P (dC, dI) vC [] t.heap ∧ va_K (dC, dI) vC [] t ∧ va_D (va_A [] sz) []) (va_A [] sz)) 0 0 (va_A [] sz) := by
  refine Met.ofW (cc := cX12_word) (maxL := 4) (ret := (some .int)) (by decide) rfl ?_
  intro p e s m args below meth c s₁ B hml hv
  obtain ⟨rfl, hsz, hP, hK, hD0⟩ := hv
  have hx := B.exec
  have hb := B.bytes
  have hr := B.returns
  have hts := atoms_spec (ws := .code yX12_word cX12_word 4 (some .int) :: wP) B.pre
  have hw : ∀ w ∈ wP, w.before _ s = true := fun w h => hts w (List.mem_cons_of_mem _ h)
  have hown : s.vm.findClass RX12 = some m.cls := findClass_of_methodNamed B.named
  have hlocks := B.notSynchronized
  subst hsz
  have hD := hD0.self (sz := s.heap.size)
  generalize hAe : va_A [] s.heap.size = A at hD ⊢
  have hA : ∀ q : Nat, s.heap.size ≤ q → A q := fun q h => by rw [← hAe]; exact Or.inr h
  have hS : va_S A s.heap s.heap [] := va_S.rf
  have hP : va_P (dC, dI) vC [] s.heap := hP
  have hl := lv_entry ([.int 101, .int 113, .int 0, .int 0]) (n := 4) (Nat.le_of_ble_eq_true rfl)
  rw [lg_entry_eq]
  generalize (lg_sl ([.int 101, .int 113, .int 0, .int 0]) ++ List.replicate (4 - (lg_sl ([.int 101, .int 113, .int 0, .int 0])).length) Slot.unset).toArray = ls at hl ⊢
  have hl : lv_has ls 4 [(0, .int 101), (1, .int 113), (2, .int 0), (3, .int 0)] := hl
  refine lv_iload_n hx hb dX12_word_0 rfl (lv_at hl 0 rfl) ?_
  refine lv_sipush (v := 128) hx hb dX12_word_1 (by decide) ?_
  refine lv_imul hx hb dX12_word_4 ?_
  refine lv_nmi (y := 12928) (by decide +kernel) ?_
  refine lv_iload_n hx hb dX12_word_5 rfl (lv_at hl 1 rfl) ?_
  refine lv_iadd hx hb dX12_word_6 ?_
  refine lv_nmi (y := 13041) (by decide +kernel) ?_
  refine lv_sipush (v := 128) hx hb dX12_word_7 (by decide) ?_
  refine lv_imul hx hb dX12_word_10 ?_
  refine lv_nmi (y := 1669248) (by decide +kernel) ?_
  refine lv_iload_n hx hb dX12_word_11 rfl (lv_at hl 2 rfl) ?_
  refine lv_iadd hx hb dX12_word_12 ?_
  refine lv_nmi (y := 1669248) (by decide +kernel) ?_
  refine lv_sipush (v := 128) hx hb dX12_word_13 (by decide) ?_
  refine lv_imul hx hb dX12_word_16 ?_
  refine lv_nmi (y := 213663744) (by decide +kernel) ?_
  refine lv_iload_n hx hb dX12_word_17 rfl (lv_at hl 3 rfl) ?_
  refine lv_iadd hx hb dX12_word_18 ?_
  refine lv_nmi (y := 213663744) (by decide +kernel) ?_
  refine W.widen (k := 0) (n := 0) (Nat.le_of_ble_eq_true rfl) (Nat.le_of_ble_eq_true rfl) ?_
  exact W.iret (v := 213663744) hx hb hr (fun t ht hW => ⟨⟨213663744, (), rfl, rfl, by rw [ht]; exact hP, va_K.moved hW.alike hK, hD⟩, hS.F ht⟩) hS.2.2 dX12_word_19
set_option maxHeartbeats 4000000 in
set_option maxRecDepth 100000 in
theorem tX12_word_n20 (l : Launch) (dC : Nat → ClassId) (dI : Nat → Nat → Nat) (sz : Nat) : Met l yX12_word (.code yX12_word cX12_word 4 (some .int) :: wP) ({ frames := 0, cells := 0, slots := 0, locals := 0 }) (Pz dC dI [.int 111, .int 117, .int 116, .int 0] sz [] []) (va_Qi (fun (r : Int32) (_ : Unit) => r = 234715648) (fun (_ : Unit) (t : State) => va_P (dC, dI) vC [] t.heap ∧ va_K (dC, dI) vC [] t ∧ va_D (va_A [] sz) []) (va_A [] sz)) 0 0 (va_A [] sz) := by
  refine Met.ofW (cc := cX12_word) (maxL := 4) (ret := (some .int)) (by decide) rfl ?_
  intro p e s m args below meth c s₁ B hml hv
  obtain ⟨rfl, hsz, hP, hK, hD0⟩ := hv
  have hx := B.exec
  have hb := B.bytes
  have hr := B.returns
  have hts := atoms_spec (ws := .code yX12_word cX12_word 4 (some .int) :: wP) B.pre
  have hw : ∀ w ∈ wP, w.before _ s = true := fun w h => hts w (List.mem_cons_of_mem _ h)
  have hown : s.vm.findClass RX12 = some m.cls := findClass_of_methodNamed B.named
  have hlocks := B.notSynchronized
  subst hsz
  have hD := hD0.self (sz := s.heap.size)
  generalize hAe : va_A [] s.heap.size = A at hD ⊢
  have hA : ∀ q : Nat, s.heap.size ≤ q → A q := fun q h => by rw [← hAe]; exact Or.inr h
  have hS : va_S A s.heap s.heap [] := va_S.rf
  have hP : va_P (dC, dI) vC [] s.heap := hP
  have hl := lv_entry ([.int 111, .int 117, .int 116, .int 0]) (n := 4) (Nat.le_of_ble_eq_true rfl)
  rw [lg_entry_eq]
  generalize (lg_sl ([.int 111, .int 117, .int 116, .int 0]) ++ List.replicate (4 - (lg_sl ([.int 111, .int 117, .int 116, .int 0])).length) Slot.unset).toArray = ls at hl ⊢
  have hl : lv_has ls 4 [(0, .int 111), (1, .int 117), (2, .int 116), (3, .int 0)] := hl
  refine lv_iload_n hx hb dX12_word_0 rfl (lv_at hl 0 rfl) ?_
  refine lv_sipush (v := 128) hx hb dX12_word_1 (by decide) ?_
  refine lv_imul hx hb dX12_word_4 ?_
  refine lv_nmi (y := 14208) (by decide +kernel) ?_
  refine lv_iload_n hx hb dX12_word_5 rfl (lv_at hl 1 rfl) ?_
  refine lv_iadd hx hb dX12_word_6 ?_
  refine lv_nmi (y := 14325) (by decide +kernel) ?_
  refine lv_sipush (v := 128) hx hb dX12_word_7 (by decide) ?_
  refine lv_imul hx hb dX12_word_10 ?_
  refine lv_nmi (y := 1833600) (by decide +kernel) ?_
  refine lv_iload_n hx hb dX12_word_11 rfl (lv_at hl 2 rfl) ?_
  refine lv_iadd hx hb dX12_word_12 ?_
  refine lv_nmi (y := 1833716) (by decide +kernel) ?_
  refine lv_sipush (v := 128) hx hb dX12_word_13 (by decide) ?_
  refine lv_imul hx hb dX12_word_16 ?_
  refine lv_nmi (y := 234715648) (by decide +kernel) ?_
  refine lv_iload_n hx hb dX12_word_17 rfl (lv_at hl 3 rfl) ?_
  refine lv_iadd hx hb dX12_word_18 ?_
  refine lv_nmi (y := 234715648) (by decide +kernel) ?_
  refine W.widen (k := 0) (n := 0) (Nat.le_of_ble_eq_true rfl) (Nat.le_of_ble_eq_true rfl) ?_
  exact W.iret (v := 234715648) hx hb hr (fun t ht hW => ⟨⟨234715648, (), rfl, rfl, by rw [ht]; exact hP, va_K.moved hW.alike hK, hD⟩, hS.F ht⟩) hS.2.2 dX12_word_19
set_option maxHeartbeats 4000000 in
set_option maxRecDepth 100000 in
theorem tX12_word_n21 (l : Launch) (dC : Nat → ClassId) (dI : Nat → Nat → Nat) (sz : Nat) : Met l yX12_word (.code yX12_word cX12_word 4 (some .int) :: wP) ({ frames := 0, cells := 0, slots := 0, locals := 0 }) (Pz dC dI [.int 112, .int 117, .int 116, .int 0] sz [] []) (va_Qi (fun (r : Int32) (_ : Unit) => r = 236812800) (fun (_ : Unit) (t : State) => va_P (dC, dI) vC [] t.heap ∧ va_K (dC, dI) vC [] t ∧ va_D (va_A [] sz) []) (va_A [] sz)) 0 0 (va_A [] sz) := by
  refine Met.ofW (cc := cX12_word) (maxL := 4) (ret := (some .int)) (by decide) rfl ?_
  intro p e s m args below meth c s₁ B hml hv
  obtain ⟨rfl, hsz, hP, hK, hD0⟩ := hv
  have hx := B.exec
  have hb := B.bytes
  have hr := B.returns
  have hts := atoms_spec (ws := .code yX12_word cX12_word 4 (some .int) :: wP) B.pre
  have hw : ∀ w ∈ wP, w.before _ s = true := fun w h => hts w (List.mem_cons_of_mem _ h)
  have hown : s.vm.findClass RX12 = some m.cls := findClass_of_methodNamed B.named
  have hlocks := B.notSynchronized
  subst hsz
  have hD := hD0.self (sz := s.heap.size)
  generalize hAe : va_A [] s.heap.size = A at hD ⊢
  have hA : ∀ q : Nat, s.heap.size ≤ q → A q := fun q h => by rw [← hAe]; exact Or.inr h
  have hS : va_S A s.heap s.heap [] := va_S.rf
  have hP : va_P (dC, dI) vC [] s.heap := hP
  have hl := lv_entry ([.int 112, .int 117, .int 116, .int 0]) (n := 4) (Nat.le_of_ble_eq_true rfl)
  rw [lg_entry_eq]
  generalize (lg_sl ([.int 112, .int 117, .int 116, .int 0]) ++ List.replicate (4 - (lg_sl ([.int 112, .int 117, .int 116, .int 0])).length) Slot.unset).toArray = ls at hl ⊢
  have hl : lv_has ls 4 [(0, .int 112), (1, .int 117), (2, .int 116), (3, .int 0)] := hl
  refine lv_iload_n hx hb dX12_word_0 rfl (lv_at hl 0 rfl) ?_
  refine lv_sipush (v := 128) hx hb dX12_word_1 (by decide) ?_
  refine lv_imul hx hb dX12_word_4 ?_
  refine lv_nmi (y := 14336) (by decide +kernel) ?_
  refine lv_iload_n hx hb dX12_word_5 rfl (lv_at hl 1 rfl) ?_
  refine lv_iadd hx hb dX12_word_6 ?_
  refine lv_nmi (y := 14453) (by decide +kernel) ?_
  refine lv_sipush (v := 128) hx hb dX12_word_7 (by decide) ?_
  refine lv_imul hx hb dX12_word_10 ?_
  refine lv_nmi (y := 1849984) (by decide +kernel) ?_
  refine lv_iload_n hx hb dX12_word_11 rfl (lv_at hl 2 rfl) ?_
  refine lv_iadd hx hb dX12_word_12 ?_
  refine lv_nmi (y := 1850100) (by decide +kernel) ?_
  refine lv_sipush (v := 128) hx hb dX12_word_13 (by decide) ?_
  refine lv_imul hx hb dX12_word_16 ?_
  refine lv_nmi (y := 236812800) (by decide +kernel) ?_
  refine lv_iload_n hx hb dX12_word_17 rfl (lv_at hl 3 rfl) ?_
  refine lv_iadd hx hb dX12_word_18 ?_
  refine lv_nmi (y := 236812800) (by decide +kernel) ?_
  refine W.widen (k := 0) (n := 0) (Nat.le_of_ble_eq_true rfl) (Nat.le_of_ble_eq_true rfl) ?_
  exact W.iret (v := 236812800) hx hb hr (fun t ht hW => ⟨⟨236812800, (), rfl, rfl, by rw [ht]; exact hP, va_K.moved hW.alike hK, hD⟩, hS.F ht⟩) hS.2.2 dX12_word_19
