set_option maxHeartbeats 4000000 in
set_option maxRecDepth 100000 in
theorem tX9_init_n1 (l : Launch) (dC : Nat → ClassId) (dI : Nat → Nat → Nat) (h0 : Nat) (sz : Nat) : Met l yX9_init (.code yX9_init cX9_init 3 none :: wP) ({ frames := 1, cells := 1, slots := 6005, locals := 21 }) (Pz dC dI [.ref h0, .int 5, .int 1201] sz [(h0, .inr (5, [.int 0, .int 0, .null, .int 0]))] []) (va_Qv (fun (_ : Unit) => True) (fun (_ : Unit) (t : State) => ∃ (q1 : Nat) (b2 : ClassId), va_P (dC, dI) vC [(h0, .inr (5, [.int 5, .int 1201, .ref q1, .int 0])), (q1, .inl (b2, 6005, .inl (fun _ => 0)))] t.heap ∧ va_K (dC, dI) vC [(b2, .int)] t ∧ va_D (va_A [(h0, .inr (5, [.int 0, .int 0, .null, .int 0]))] sz) [(h0, .inr (5, [.int 5, .int 1201, .ref q1, .int 0])), (q1, .inl (b2, 6005, .inl (fun _ => 0)))]) (va_A [(h0, .inr (5, [.int 0, .int 0, .null, .int 0]))] sz)) 1 6005 (va_A [(h0, .inr (5, [.int 0, .int 0, .null, .int 0]))] sz) := by
  refine Met.ofW (cc := cX9_init) (maxL := 3) (ret := none) (by decide) rfl ?_
  intro p e s m args below meth c s₁ B hml hv
  obtain ⟨rfl, hsz, hP, hK, hD0⟩ := hv
  have hx := B.exec
  have hb := B.bytes
  have hr := B.returns
  have hts := atoms_spec (ws := .code yX9_init cX9_init 3 none :: wP) B.pre
  have hw : ∀ w ∈ wP, w.before _ s = true := fun w h => hts w (List.mem_cons_of_mem _ h)
  have hown : s.vm.findClass RX9 = some m.cls := findClass_of_methodNamed B.named
  have hlocks := B.notSynchronized
  have hin : meth.name = "<init>" := (name_of_methodNamed B.named B.method).1
  subst hsz
  have hD := hD0.self (sz := s.heap.size)
  generalize hAe : va_A [(h0, .inr (5, [.int 0, .int 0, .null, .int 0]))] s.heap.size = A at hD ⊢
  have hA : ∀ q : Nat, s.heap.size ≤ q → A q := fun q h => by rw [← hAe]; exact Or.inr h
  have hS : va_S A s.heap s.heap [] := va_S.rf
  have hP : va_P (dC, dI) vC [(h0, .inr (5, [.int 0, .int 0, .null, .int 0]))] s.heap := hP
  have hl := lv_entry ([.ref h0, .int 5, .int 1201]) (n := 3) (Nat.le_of_ble_eq_true rfl)
  rw [lg_entry_eq]
  generalize (lg_sl ([.ref h0, .int 5, .int 1201]) ++ List.replicate (3 - (lg_sl ([.ref h0, .int 5, .int 1201])).length) Slot.unset).toArray = ls at hl ⊢
  have hl : lv_has ls 3 [(0, .ref h0), (1, .int 5), (2, .int 1201)] := hl
  refine lv_aload_n hx hb dX9_init_0 rfl (lv_at hl 0 rfl) ?_
  refine W.objInit hx hb hown (hw _ mP_172) (hw _ mP_28) (hw _ mP_29) rfl (by rw [hml]; exact hl.1) rfl dX9_init_1 (Nat.le_of_ble_eq_true rfl) (Nat.le_of_ble_eq_true rfl) ?_
  refine W.eq (g2 := F0 m 4 ls []) rfl ?_
  refine lv_aload_n hx hb dX9_init_4 rfl (lv_at hl 0 rfl) ?_
  refine lv_iconst (v := 1) hx hb dX9_init_5 (by decide) ?_
  refine lv_iload_n hx hb dX9_init_6 rfl (lv_at hl 1 rfl) ?_
  refine va_mmax hx hb (hml.trans hl.1.symm) hown (hw _ mP_173) (hw _ mP_174) (hw _ mP_175) (hw _ mP_176) (Nat.le_of_ble_eq_true rfl) (Nat.le_of_ble_eq_true rfl) (Nat.le_of_ble_eq_true rfl) (Nat.le_of_ble_eq_true rfl) dX9_init_7 ?_
  refine lv_nmi (y := 5) (by decide +kernel) ?_
  refine va_putF (D := (dC, dI)) (ci := 5) (v := .int 5) (ty := .int) (C := RX9) (T := TX9) (N := 4) hx hb hw inX9 tyX9 tyX9_ok nmX9 hown hK hP hD hS 0 rfl rfl 0 (by decide) (hw _ mP_177) (fun _ h9 => h9) rfl hin rfl (tyX9_ok 0 (by decide)) rfl rfl (Nat.le_of_ble_eq_true rfl) dX9_init_10 (fun H locs hP hD hS => ?_)
  have hP : va_P (dC, dI) vC [(h0, .inr (5, [.int 5, .int 0, .null, .int 0]))] H := hP
  have hD : va_D A [(h0, .inr (5, [.int 5, .int 0, .null, .int 0]))] := hD
  refine lv_aload_n hx hb dX9_init_13 rfl (lv_at hl 0 rfl) ?_
  refine lv_iconst (v := 0) hx hb dX9_init_14 (by decide) ?_
  refine lv_iload_n hx hb dX9_init_15 rfl (lv_at hl 2 rfl) ?_
  refine va_mmax hx hb (hml.trans hl.1.symm) hown (hw _ mP_173) (hw _ mP_174) (hw _ mP_175) (hw _ mP_176) (Nat.le_of_ble_eq_true rfl) (Nat.le_of_ble_eq_true rfl) (Nat.le_of_ble_eq_true rfl) (Nat.le_of_ble_eq_true rfl) dX9_init_16 ?_
  refine lv_nmi (y := 1201) (by decide +kernel) ?_
  refine va_putF (D := (dC, dI)) (ci := 5) (v := .int 1201) (ty := .int) (C := RX9) (T := TX9) (N := 4) hx hb hw inX9 tyX9 tyX9_ok nmX9 hown hK hP hD hS 0 rfl rfl 1 (by decide) (hw _ mP_178) (fun _ h9 => h9) rfl hin rfl (tyX9_ok 1 (by decide)) rfl rfl (Nat.le_of_ble_eq_true rfl) dX9_init_19 (fun H locs hP hD hS => ?_)
  have hP : va_P (dC, dI) vC [(h0, .inr (5, [.int 5, .int 1201, .null, .int 0]))] H := hP
  have hD : va_D A [(h0, .inr (5, [.int 5, .int 1201, .null, .int 0]))] := hD
  refine lv_aload_n hx hb dX9_init_22 rfl (lv_at hl 0 rfl) ?_
  refine lv_aload_n hx hb dX9_init_23 rfl (lv_at hl 0 rfl) ?_
  refine va_get (D := (dC, dI)) (ci := 5) (v := .int 5) (C := RX9) (T := TX9) (N := 4) hx hb hw inX9 hown hK hP 0 rfl rfl 0 (by decide) (hw _ mP_177) (fun _ h9 => h9) rfl dX9_init_24 ?_
  refine lv_aload_n hx hb dX9_init_27 rfl (lv_at hl 0 rfl) ?_
  refine va_get (D := (dC, dI)) (ci := 5) (v := .int 1201) (C := RX9) (T := TX9) (N := 4) hx hb hw inX9 hown hK hP 0 rfl rfl 1 (by decide) (hw _ mP_178) (fun _ h9 => h9) rfl dX9_init_28 ?_
  refine lv_imul hx hb dX9_init_31 ?_
  refine lv_nmi (y := 6005) (by decide +kernel) ?_
  refine va_newa (atype := .int) (ty := .int) (a0 := (6005, .inl (fun _ => 0))) hx hb (hw _ mP_32) rfl hK hP hD hS hA (fun _ => rfl) (by decide +kernel) (by decide +kernel) (by decide +kernel) (Nat.le_of_ble_eq_true rfl) (Nat.le_of_ble_eq_true rfl) dX9_init_32 (fun q1 b2 H hK hP hD hS => ?_)
  have hP : va_P (dC, dI) vC [(h0, .inr (5, [.int 5, .int 1201, .null, .int 0])), (q1, .inl (b2, 6005, .inl (fun _ => 0)))] H := hP
  have hD : va_D A [(h0, .inr (5, [.int 5, .int 1201, .null, .int 0])), (q1, .inl (b2, 6005, .inl (fun _ => 0)))] := hD
  have hK : va_K (dC, dI) vC [(b2, .int)] s := hK
  refine W.widen (k := 1) (n := 6005) (Nat.le_of_ble_eq_true rfl) (Nat.le_of_ble_eq_true rfl) ?_
  refine va_putF (D := (dC, dI)) (ci := 5) (v := .ref q1) (ty := .array .int) (C := RX9) (T := TX9) (N := 4) hx hb hw inX9 tyX9 tyX9_ok nmX9 hown hK hP hD hS 0 rfl rfl 2 (by decide) (hw _ mP_179) (fun _ h9 => h9) rfl hin rfl (tyX9_ok 2 (by decide)) rfl rfl (Nat.le_of_ble_eq_true rfl) dX9_init_34 (fun H locs hP hD hS => ?_)
  have hP : va_P (dC, dI) vC [(h0, .inr (5, [.int 5, .int 1201, .ref q1, .int 0])), (q1, .inl (b2, 6005, .inl (fun _ => 0)))] H := hP
  have hD : va_D A [(h0, .inr (5, [.int 5, .int 1201, .ref q1, .int 0])), (q1, .inl (b2, 6005, .inl (fun _ => 0)))] := hD
  refine W.widen (k := 1) (n := 6005) (Nat.le_of_ble_eq_true rfl) (Nat.le_of_ble_eq_true rfl) ?_
  exact W.vret hx hb hr (fun t ht hW => ⟨⟨(), rfl, trivial, q1, b2, by rw [ht]; exact hP, va_K.moved hW.alike hK, hD⟩, hS.F ht⟩) hS.2.2 dX9_init_37
