set_option maxHeartbeats 4000000 in
set_option maxRecDepth 100000 in
theorem tX9_add_n1 (l : Launch) (dC : Nat → ClassId) (dI : Nat → Nat → Nat) (h0 h1 : Nat) (sz : Nat) (k0 : ClassId) : Met l yX9_add (.code yX9_add cX9_add 1 (some .int) :: wP) ({ frames := 2, cells := 0, slots := 0, locals := 46 }) (Pz dC dI [.ref h0] sz [(h0, .inr (5, [.int 5, .int 1201, .ref h1, .int 0])), (h1, .inl (k0, 6005, .inl (fun _ => 0)))] [(k0, .int)]) (va_Qi (fun (r : Int32) (_ : Unit) => r = 0) (fun (_ : Unit) (t : State) => va_P (dC, dI) vC [(h0, .inr (5, [.int 5, .int 1201, .ref h1, .int 1])), (h1, .inl (k0, 6005, .inl (upd (upd (upd (upd (upd (fun _ => 0) (0 : Int32).toNatClampNeg (-1)) (1 : Int32).toNatClampNeg (-1)) (2 : Int32).toNatClampNeg (-1)) (3 : Int32).toNatClampNeg (-1)) (4 : Int32).toNatClampNeg (-1))))] t.heap ∧ va_K (dC, dI) vC [(k0, .int)] t ∧ va_D (va_A [(h0, .inr (5, [.int 5, .int 1201, .ref h1, .int 0])), (h1, .inl (k0, 6005, .inl (fun _ => 0)))] sz) [(h0, .inr (5, [.int 5, .int 1201, .ref h1, .int 1])), (h1, .inl (k0, 6005, .inl (upd (upd (upd (upd (upd (fun _ => 0) (0 : Int32).toNatClampNeg (-1)) (1 : Int32).toNatClampNeg (-1)) (2 : Int32).toNatClampNeg (-1)) (3 : Int32).toNatClampNeg (-1)) (4 : Int32).toNatClampNeg (-1))))]) (va_A [(h0, .inr (5, [.int 5, .int 1201, .ref h1, .int 0])), (h1, .inl (k0, 6005, .inl (fun _ => 0)))] sz)) 0 0 (va_A [(h0, .inr (5, [.int 5, .int 1201, .ref h1, .int 0])), (h1, .inl (k0, 6005, .inl (fun _ => 0)))] sz) := by
  refine Met.ofW (cc := cX9_add) (maxL := 1) (ret := (some .int)) (by decide) rfl ?_
  intro p e s m args below meth c s₁ B hml hv
  obtain ⟨rfl, hsz, hP, hK, hD0⟩ := hv
  have hx := B.exec
  have hb := B.bytes
  have hr := B.returns
  have hts := atoms_spec (ws := .code yX9_add cX9_add 1 (some .int) :: wP) B.pre
  have hw : ∀ w ∈ wP, w.before _ s = true := fun w h => hts w (List.mem_cons_of_mem _ h)
  have hown : s.vm.findClass RX9 = some m.cls := findClass_of_methodNamed B.named
  have hlocks := B.notSynchronized
  subst hsz
  have hD := hD0.self (sz := s.heap.size)
  generalize hAe : va_A [(h0, .inr (5, [.int 5, .int 1201, .ref h1, .int 0])), (h1, .inl (k0, 6005, .inl (fun _ => 0)))] s.heap.size = A at hD ⊢
  have hA : ∀ q : Nat, s.heap.size ≤ q → A q := fun q h => by rw [← hAe]; exact Or.inr h
  have hS : va_S A s.heap s.heap [] := va_S.rf
  have hP : va_P (dC, dI) vC [(h0, .inr (5, [.int 5, .int 1201, .ref h1, .int 0])), (h1, .inl (k0, 6005, .inl (fun _ => 0)))] s.heap := hP
  have hl := lv_entry ([.ref h0]) (n := 1) (Nat.le_of_ble_eq_true rfl)
  rw [lg_entry_eq]
  generalize (lg_sl ([.ref h0]) ++ List.replicate (1 - (lg_sl ([.ref h0])).length) Slot.unset).toArray = ls at hl ⊢
  have hl : lv_has ls 1 [(0, .ref h0)] := hl
  refine lv_aload_n hx hb dX9_add_0 rfl (lv_at hl 0 rfl) ?_
  refine va_get (D := (dC, dI)) (ci := 5) (v := .int 0) (C := RX9) (T := TX9) (N := 4) hx hb hw inX9 hown hK hP 0 rfl rfl 3 (by decide) (hw _ mP_263) (fun _ h9 => h9) rfl dX9_add_1 ?_
  refine lv_aload_n hx hb dX9_add_4 rfl (lv_at hl 0 rfl) ?_
  refine va_get (D := (dC, dI)) (ci := 5) (v := .int 1201) (C := RX9) (T := TX9) (N := 4) hx hb hw inX9 hown hK hP 0 rfl rfl 1 (by decide) (hw _ mP_178) (fun _ h9 => h9) rfl dX9_add_5 ?_
  refine lv_icmp_lt (tgt := 13) hx hb dX9_add_8 (by decide) (fun _ => ?_) (fun c => absurd (by decide +kernel) c)
  refine lv_aload_n hx hb dX9_add_13 rfl (lv_at hl 0 rfl) ?_
  refine va_get (D := (dC, dI)) (ci := 5) (v := .ref h1) (C := RX9) (T := TX9) (N := 4) hx hb hw inX9 hown hK hP 0 rfl rfl 2 (by decide) (hw _ mP_179) (fun _ h9 => h9) rfl dX9_add_14 ?_
  refine lv_aload_n hx hb dX9_add_17 rfl (lv_at hl 0 rfl) ?_
  refine va_get (D := (dC, dI)) (ci := 5) (v := .int 0) (C := RX9) (T := TX9) (N := 4) hx hb hw inX9 hown hK hP 0 rfl rfl 3 (by decide) (hw _ mP_263) (fun _ h9 => h9) rfl dX9_add_18 ?_
  refine lv_aload_n hx hb dX9_add_21 rfl (lv_at hl 0 rfl) ?_
  refine va_get (D := (dC, dI)) (ci := 5) (v := .int 5) (C := RX9) (T := TX9) (N := 4) hx hb hw inX9 hown hK hP 0 rfl rfl 0 (by decide) (hw _ mP_177) (fun _ h9 => h9) rfl dX9_add_22 ?_
  refine lv_imul hx hb dX9_add_25 ?_
  refine lv_nmi (y := 0) (by decide +kernel) ?_
  refine lv_aload_n hx hb dX9_add_26 rfl (lv_at hl 0 rfl) ?_
  refine va_get (D := (dC, dI)) (ci := 5) (v := .int 0) (C := RX9) (T := TX9) (N := 4) hx hb hw inX9 hown hK hP 0 rfl rfl 3 (by decide) (hw _ mP_263) (fun _ h9 => h9) rfl dX9_add_27 ?_
  refine lv_iconst (v := 1) hx hb dX9_add_30 (by decide) ?_
  refine lv_iadd hx hb dX9_add_31 ?_
  refine lv_nmi (y := 1) (by decide +kernel) ?_
  refine lv_aload_n hx hb dX9_add_32 rfl (lv_at hl 0 rfl) ?_
  refine va_get (D := (dC, dI)) (ci := 5) (v := .int 5) (C := RX9) (T := TX9) (N := 4) hx hb hw inX9 hown hK hP 0 rfl rfl 0 (by decide) (hw _ mP_177) (fun _ h9 => h9) rfl dX9_add_33 ?_
  refine lv_imul hx hb dX9_add_36 ?_
  refine lv_nmi (y := 5) (by decide +kernel) ?_
  refine lv_iconst (v := (-1)) hx hb dX9_add_37 (by decide) ?_
  have hPc := hP.sub (ws' := [(h1, .inl (k0, 6005, .inl (fun _ => 0)))]) [1] rfl
  have hDc := hD.sub (ws' := [(h1, .inl (k0, 6005, .inl (fun _ => 0)))]) [1] (by decide) rfl
  have hKc := hK.sub (tys' := [(k0, .int)]) [0] rfl
  have hFc := va_free (wc := [(h1, .inl (k0, 6005, .inl (fun _ => 0)))]) hD hS hA [1] rfl
  refine va_callv (va_runS (As := [.ref h1, .int 0, .int 5, .int (-1)]) (rest := []) ⟨hx, hb, hml, hown, hw⟩ (tJ7_fill_fda19_n1 l dC dI h1 s.heap.size k0) ⟨callB_of 4 hw (gd mP_286) rfl rfl rfl (hw _ mP_282) (hw _ mP_287) hdJ7_fill_fda19 ⟨Nat.le_of_ble_eq_true rfl, Nat.le_of_ble_eq_true rfl⟩, (hw _ mP_288)⟩ ⟨fbz, prz hPc hKc hDc⟩ rfl rfl hl.1 rfl (lv_room (Nat.le_of_ble_eq_true rfl)) dX9_add_38 ⟨Nat.le_of_ble_eq_true rfl, Nat.le_of_ble_eq_true rfl⟩) hS (fun q _ h => hFc q h) hFc (fun u1 t H1 locs ht hvm hpo hB hz1 hk1 hS => ?_)
  obtain ⟨hP1, hK1, hD1⟩ := hB
  rw [ht] at hP1
  have hK1 := va_K.moved hvm.symm hK1
  obtain ⟨hP, hD⟩ := va_join (wr := [(h0, .inr (5, [.int 5, .int 1201, .ref h1, .int 0]))]) (w1 := [(h1, .inl (k0, 6005, .inl (upd (upd (upd (upd (upd (fun _ => 0) (0 : Int32).toNatClampNeg (-1)) (1 : Int32).toNatClampNeg (-1)) (2 : Int32).toNatClampNeg (-1)) (3 : Int32).toNatClampNeg (-1)) (4 : Int32).toNatClampNeg (-1))))]) hP hD [1] [0] rfl rfl (by decide) (by decide) hk1 hFc hP1 hD1
  have hK := (hK.sub (tys' := []) [] rfl).app hK1
  generalize H1 = H at hP hS ⊢
  have hP : va_P (dC, dI) vC [(h0, .inr (5, [.int 5, .int 1201, .ref h1, .int 0])), (h1, .inl (k0, 6005, .inl (upd (upd (upd (upd (upd (fun _ => 0) (0 : Int32).toNatClampNeg (-1)) (1 : Int32).toNatClampNeg (-1)) (2 : Int32).toNatClampNeg (-1)) (3 : Int32).toNatClampNeg (-1)) (4 : Int32).toNatClampNeg (-1))))] H := hP
  have hD : va_D A [(h0, .inr (5, [.int 5, .int 1201, .ref h1, .int 0])), (h1, .inl (k0, 6005, .inl (upd (upd (upd (upd (upd (fun _ => 0) (0 : Int32).toNatClampNeg (-1)) (1 : Int32).toNatClampNeg (-1)) (2 : Int32).toNatClampNeg (-1)) (3 : Int32).toNatClampNeg (-1)) (4 : Int32).toNatClampNeg (-1))))] := hD
  have hK : va_K (dC, dI) vC [(k0, .int)] s := hK
  refine lv_aload_n hx hb dX9_add_41 rfl (lv_at hl 0 rfl) ?_
  refine lv_dup hx hb dX9_add_42 rfl ?_
  refine va_get (D := (dC, dI)) (ci := 5) (v := .int 0) (C := RX9) (T := TX9) (N := 4) hx hb hw inX9 hown hK hP 0 rfl rfl 3 (by decide) (hw _ mP_263) (fun _ h9 => h9) rfl dX9_add_43 ?_
  refine lv_iconst (v := 1) hx hb dX9_add_46 (by decide) ?_
  refine lv_iadd hx hb dX9_add_47 ?_
  refine lv_nmi (y := 1) (by decide +kernel) ?_
  refine va_put (D := (dC, dI)) (ci := 5) (v := .int 1) (ty := .int) (C := RX9) (T := TX9) (N := 4) hx hb hw inX9 tyX9 tyX9_ok nmX9 hown hK hP hD hS 0 rfl rfl 3 (by decide) (hw _ mP_263) (fun _ h9 => h9) rfl (tyX9_ok 3 (by decide)) rfl rfl (Nat.le_of_ble_eq_true rfl) dX9_add_48 (fun H locs hP hD hS => ?_)
  have hP : va_P (dC, dI) vC [(h0, .inr (5, [.int 5, .int 1201, .ref h1, .int 1])), (h1, .inl (k0, 6005, .inl (upd (upd (upd (upd (upd (fun _ => 0) (0 : Int32).toNatClampNeg (-1)) (1 : Int32).toNatClampNeg (-1)) (2 : Int32).toNatClampNeg (-1)) (3 : Int32).toNatClampNeg (-1)) (4 : Int32).toNatClampNeg (-1))))] H := hP
  have hD : va_D A [(h0, .inr (5, [.int 5, .int 1201, .ref h1, .int 1])), (h1, .inl (k0, 6005, .inl (upd (upd (upd (upd (upd (fun _ => 0) (0 : Int32).toNatClampNeg (-1)) (1 : Int32).toNatClampNeg (-1)) (2 : Int32).toNatClampNeg (-1)) (3 : Int32).toNatClampNeg (-1)) (4 : Int32).toNatClampNeg (-1))))] := hD
  refine lv_aload_n hx hb dX9_add_51 rfl (lv_at hl 0 rfl) ?_
  refine va_get (D := (dC, dI)) (ci := 5) (v := .int 1) (C := RX9) (T := TX9) (N := 4) hx hb hw inX9 hown hK hP 0 rfl rfl 3 (by decide) (hw _ mP_263) (fun _ h9 => h9) rfl dX9_add_52 ?_
  refine lv_iconst (v := 1) hx hb dX9_add_55 (by decide) ?_
  refine lv_isub hx hb dX9_add_56 ?_
  refine lv_nmi (y := 0) (by decide +kernel) ?_
  refine W.widen (k := 0) (n := 0) (Nat.le_of_ble_eq_true rfl) (Nat.le_of_ble_eq_true rfl) ?_
  exact W.iret (v := 0) hx hb hr (fun t ht hW => ⟨⟨0, (), rfl, rfl, by rw [ht]; exact hP, va_K.moved hW.alike hK, hD⟩, hS.F ht⟩) hS.2.2 dX9_add_57
set_option maxHeartbeats 4000000 in
set_option maxRecDepth 100000 in
theorem tX9_set_n1 (l : Launch) (dC : Nat → ClassId) (dI : Nat → Nat → Nat) (h0 h1 : Nat) (sz : Nat) (k0 : ClassId) : Met l yX9_set (.code yX9_set cX9_set 4 none :: wP) ({ frames := 0, cells := 0, slots := 0, locals := 0 }) (Pz dC dI [.ref h0, .int 0, .int 0, .int 37] sz [(h0, .inr (5, [.int 5, .int 1201, .ref h1, .int 1])), (h1, .inl (k0, 6005, .inl (upd (upd (upd (upd (upd (fun _ => 0) (0 : Int32).toNatClampNeg (-1)) (1 : Int32).toNatClampNeg (-1)) (2 : Int32).toNatClampNeg (-1)) (3 : Int32).toNatClampNeg (-1)) (4 : Int32).toNatClampNeg (-1))))] [(k0, .int)]) (va_Qv (fun (_ : Unit) => True) (fun (_ : Unit) (t : State) => va_P (dC, dI) vC [(h0, .inr (5, [.int 5, .int 1201, .ref h1, .int 1])), (h1, .inl (k0, 6005, .inl (upd (upd (upd (upd (upd (upd (fun _ => 0) (0 : Int32).toNatClampNeg (-1)) (1 : Int32).toNatClampNeg (-1)) (2 : Int32).toNatClampNeg (-1)) (3 : Int32).toNatClampNeg (-1)) (4 : Int32).toNatClampNeg (-1)) (0 : Int32).toNatClampNeg 37)))] t.heap ∧ va_K (dC, dI) vC [(k0, .int)] t ∧ va_D (va_A [(h0, .inr (5, [.int 5, .int 1201, .ref h1, .int 1])), (h1, .inl (k0, 6005, .inl (upd (upd (upd (upd (upd (fun _ => 0) (0 : Int32).toNatClampNeg (-1)) (1 : Int32).toNatClampNeg (-1)) (2 : Int32).toNatClampNeg (-1)) (3 : Int32).toNatClampNeg (-1)) (4 : Int32).toNatClampNeg (-1))))] sz) [(h0, .inr (5, [.int 5, .int 1201, .ref h1, .int 1])), (h1, .inl (k0, 6005, .inl (upd (upd (upd (upd (upd (upd (fun _ => 0) (0 : Int32).toNatClampNeg (-1)) (1 : Int32).toNatClampNeg (-1)) (2 : Int32).toNatClampNeg (-1)) (3 : Int32).toNatClampNeg (-1)) (4 : Int32).toNatClampNeg (-1)) (0 : Int32).toNatClampNeg 37)))]) (va_A [(h0, .inr (5, [.int 5, .int 1201, .ref h1, .int 1])), (h1, .inl (k0, 6005, .inl (upd (upd (upd (upd (upd (fun _ => 0) (0 : Int32).toNatClampNeg (-1)) (1 : Int32).toNatClampNeg (-1)) (2 : Int32).toNatClampNeg (-1)) (3 : Int32).toNatClampNeg (-1)) (4 : Int32).toNatClampNeg (-1))))] sz)) 0 0 (va_A [(h0, .inr (5, [.int 5, .int 1201, .ref h1, .int 1])), (h1, .inl (k0, 6005, .inl (upd (upd (upd (upd (upd (fun _ => 0) (0 : Int32).toNatClampNeg (-1)) (1 : Int32).toNatClampNeg (-1)) (2 : Int32).toNatClampNeg (-1)) (3 : Int32).toNatClampNeg (-1)) (4 : Int32).toNatClampNeg (-1))))] sz) := by
  refine Met.ofW (cc := cX9_set) (maxL := 4) (ret := none) (by decide) rfl ?_
  intro p e s m args below meth c s₁ B hml hv
  obtain ⟨rfl, hsz, hP, hK, hD0⟩ := hv
  have hx := B.exec
  have hb := B.bytes
  have hr := B.returns
  have hts := atoms_spec (ws := .code yX9_set cX9_set 4 none :: wP) B.pre
  have hw : ∀ w ∈ wP, w.before _ s = true := fun w h => hts w (List.mem_cons_of_mem _ h)
  have hown : s.vm.findClass RX9 = some m.cls := findClass_of_methodNamed B.named
  have hlocks := B.notSynchronized
  subst hsz
  have hD := hD0.self (sz := s.heap.size)
  generalize hAe : va_A [(h0, .inr (5, [.int 5, .int 1201, .ref h1, .int 1])), (h1, .inl (k0, 6005, .inl (upd (upd (upd (upd (upd (fun _ => 0) (0 : Int32).toNatClampNeg (-1)) (1 : Int32).toNatClampNeg (-1)) (2 : Int32).toNatClampNeg (-1)) (3 : Int32).toNatClampNeg (-1)) (4 : Int32).toNatClampNeg (-1))))] s.heap.size = A at hD ⊢
  have hA : ∀ q : Nat, s.heap.size ≤ q → A q := fun q h => by rw [← hAe]; exact Or.inr h
  have hS : va_S A s.heap s.heap [] := va_S.rf
  have hP : va_P (dC, dI) vC [(h0, .inr (5, [.int 5, .int 1201, .ref h1, .int 1])), (h1, .inl (k0, 6005, .inl (upd (upd (upd (upd (upd (fun _ => 0) (0 : Int32).toNatClampNeg (-1)) (1 : Int32).toNatClampNeg (-1)) (2 : Int32).toNatClampNeg (-1)) (3 : Int32).toNatClampNeg (-1)) (4 : Int32).toNatClampNeg (-1))))] s.heap := hP
  have hl := lv_entry ([.ref h0, .int 0, .int 0, .int 37]) (n := 4) (Nat.le_of_ble_eq_true rfl)
  rw [lg_entry_eq]
  generalize (lg_sl ([.ref h0, .int 0, .int 0, .int 37]) ++ List.replicate (4 - (lg_sl ([.ref h0, .int 0, .int 0, .int 37])).length) Slot.unset).toArray = ls at hl ⊢
  have hl : lv_has ls 4 [(0, .ref h0), (1, .int 0), (2, .int 0), (3, .int 37)] := hl
  refine lv_iload_n hx hb dX9_set_0 rfl (lv_at hl 1 rfl) ?_
  refine lv_if_lt (tgt := 38) hx hb dX9_set_1 (by decide) (fun c => absurd c (by decide +kernel)) (fun _ => ?_)
  refine lv_iload_n hx hb dX9_set_4 rfl (lv_at hl 1 rfl) ?_
  refine lv_aload_n hx hb dX9_set_5 rfl (lv_at hl 0 rfl) ?_
  refine va_get (D := (dC, dI)) (ci := 5) (v := .int 1) (C := RX9) (T := TX9) (N := 4) hx hb hw inX9 hown hK hP 0 rfl rfl 3 (by decide) (hw _ mP_263) (fun _ h9 => h9) rfl dX9_set_6 ?_
  refine lv_icmp_ge (tgt := 38) hx hb dX9_set_9 (by decide) (fun c => absurd c (by decide +kernel)) (fun _ => ?_)
  refine lv_iload_n hx hb dX9_set_12 rfl (lv_at hl 2 rfl) ?_
  refine lv_if_lt (tgt := 38) hx hb dX9_set_13 (by decide) (fun c => absurd c (by decide +kernel)) (fun _ => ?_)
  refine lv_iload_n hx hb dX9_set_16 rfl (lv_at hl 2 rfl) ?_
  refine lv_aload_n hx hb dX9_set_17 rfl (lv_at hl 0 rfl) ?_
  refine va_get (D := (dC, dI)) (ci := 5) (v := .int 5) (C := RX9) (T := TX9) (N := 4) hx hb hw inX9 hown hK hP 0 rfl rfl 0 (by decide) (hw _ mP_177) (fun _ h9 => h9) rfl dX9_set_18 ?_
  refine lv_icmp_ge (tgt := 38) hx hb dX9_set_21 (by decide) (fun c => absurd c (by decide +kernel)) (fun _ => ?_)
  refine lv_aload_n hx hb dX9_set_24 rfl (lv_at hl 0 rfl) ?_
  refine va_get (D := (dC, dI)) (ci := 5) (v := .ref h1) (C := RX9) (T := TX9) (N := 4) hx hb hw inX9 hown hK hP 0 rfl rfl 2 (by decide) (hw _ mP_179) (fun _ h9 => h9) rfl dX9_set_25 ?_
  refine lv_iload_n hx hb dX9_set_28 rfl (lv_at hl 1 rfl) ?_
  refine lv_aload_n hx hb dX9_set_29 rfl (lv_at hl 0 rfl) ?_
  refine va_get (D := (dC, dI)) (ci := 5) (v := .int 5) (C := RX9) (T := TX9) (N := 4) hx hb hw inX9 hown hK hP 0 rfl rfl 0 (by decide) (hw _ mP_177) (fun _ h9 => h9) rfl dX9_set_30 ?_
  refine lv_imul hx hb dX9_set_33 ?_
  refine lv_nmi (y := 0) (by decide +kernel) ?_
  refine lv_iload_n hx hb dX9_set_34 rfl (lv_at hl 2 rfl) ?_
  refine lv_iadd hx hb dX9_set_35 ?_
  refine lv_nmi (y := 0) (by decide +kernel) ?_
  refine lv_iload_n hx hb dX9_set_36 rfl (lv_at hl 3 rfl) ?_
  refine va_iast hx hb hK hP hD hS 1 0 rfl rfl (vin (by decide +kernel)) dX9_set_37 (fun H locs hP hD hS => ?_)
  have hP : va_P (dC, dI) vC [(h0, .inr (5, [.int 5, .int 1201, .ref h1, .int 1])), (h1, .inl (k0, 6005, .inl (upd (upd (upd (upd (upd (upd (fun _ => 0) (0 : Int32).toNatClampNeg (-1)) (1 : Int32).toNatClampNeg (-1)) (2 : Int32).toNatClampNeg (-1)) (3 : Int32).toNatClampNeg (-1)) (4 : Int32).toNatClampNeg (-1)) (0 : Int32).toNatClampNeg 37)))] H := hP
  have hD : va_D A [(h0, .inr (5, [.int 5, .int 1201, .ref h1, .int 1])), (h1, .inl (k0, 6005, .inl (upd (upd (upd (upd (upd (upd (fun _ => 0) (0 : Int32).toNatClampNeg (-1)) (1 : Int32).toNatClampNeg (-1)) (2 : Int32).toNatClampNeg (-1)) (3 : Int32).toNatClampNeg (-1)) (4 : Int32).toNatClampNeg (-1)) (0 : Int32).toNatClampNeg 37)))] := hD
  refine W.widen (k := 0) (n := 0) (Nat.le_of_ble_eq_true rfl) (Nat.le_of_ble_eq_true rfl) ?_
  exact W.vret hx hb hr (fun t ht hW => ⟨⟨(), rfl, trivial, by rw [ht]; exact hP, va_K.moved hW.alike hK, hD⟩, hS.F ht⟩) hS.2.2 dX9_set_38
set_option maxHeartbeats 4000000 in
set_option maxRecDepth 100000 in
theorem tX9_set_n2 (l : Launch) (dC : Nat → ClassId) (dI : Nat → Nat → Nat) (h0 h1 : Nat) (sz : Nat) (k0 : ClassId) : Met l yX9_set (.code yX9_set cX9_set 4 none :: wP) ({ frames := 0, cells := 0, slots := 0, locals := 0 }) (Pz dC dI [.ref h0, .int 0, .int 1, .int 0] sz [(h0, .inr (5, [.int 5, .int 1201, .ref h1, .int 1])), (h1, .inl (k0, 6005, .inl (upd (upd (upd (upd (upd (upd (fun _ => 0) (0 : Int32).toNatClampNeg (-1)) (1 : Int32).toNatClampNeg (-1)) (2 : Int32).toNatClampNeg (-1)) (3 : Int32).toNatClampNeg (-1)) (4 : Int32).toNatClampNeg (-1)) (0 : Int32).toNatClampNeg 37)))] [(k0, .int)]) (va_Qv (fun (_ : Unit) => True) (fun (_ : Unit) (t : State) => va_P (dC, dI) vC [(h0, .inr (5, [.int 5, .int 1201, .ref h1, .int 1])), (h1, .inl (k0, 6005, .inl (upd (upd (upd (upd (upd (upd (upd (fun _ => 0) (0 : Int32).toNatClampNeg (-1)) (1 : Int32).toNatClampNeg (-1)) (2 : Int32).toNatClampNeg (-1)) (3 : Int32).toNatClampNeg (-1)) (4 : Int32).toNatClampNeg (-1)) (0 : Int32).toNatClampNeg 37) (1 : Int32).toNatClampNeg 0)))] t.heap ∧ va_K (dC, dI) vC [(k0, .int)] t ∧ va_D (va_A [(h0, .inr (5, [.int 5, .int 1201, .ref h1, .int 1])), (h1, .inl (k0, 6005, .inl (upd (upd (upd (upd (upd (upd (fun _ => 0) (0 : Int32).toNatClampNeg (-1)) (1 : Int32).toNatClampNeg (-1)) (2 : Int32).toNatClampNeg (-1)) (3 : Int32).toNatClampNeg (-1)) (4 : Int32).toNatClampNeg (-1)) (0 : Int32).toNatClampNeg 37)))] sz) [(h0, .inr (5, [.int 5, .int 1201, .ref h1, .int 1])), (h1, .inl (k0, 6005, .inl (upd (upd (upd (upd (upd (upd (upd (fun _ => 0) (0 : Int32).toNatClampNeg (-1)) (1 : Int32).toNatClampNeg (-1)) (2 : Int32).toNatClampNeg (-1)) (3 : Int32).toNatClampNeg (-1)) (4 : Int32).toNatClampNeg (-1)) (0 : Int32).toNatClampNeg 37) (1 : Int32).toNatClampNeg 0)))]) (va_A [(h0, .inr (5, [.int 5, .int 1201, .ref h1, .int 1])), (h1, .inl (k0, 6005, .inl (upd (upd (upd (upd (upd (upd (fun _ => 0) (0 : Int32).toNatClampNeg (-1)) (1 : Int32).toNatClampNeg (-1)) (2 : Int32).toNatClampNeg (-1)) (3 : Int32).toNatClampNeg (-1)) (4 : Int32).toNatClampNeg (-1)) (0 : Int32).toNatClampNeg 37)))] sz)) 0 0 (va_A [(h0, .inr (5, [.int 5, .int 1201, .ref h1, .int 1])), (h1, .inl (k0, 6005, .inl (upd (upd (upd (upd (upd (upd (fun _ => 0) (0 : Int32).toNatClampNeg (-1)) (1 : Int32).toNatClampNeg (-1)) (2 : Int32).toNatClampNeg (-1)) (3 : Int32).toNatClampNeg (-1)) (4 : Int32).toNatClampNeg (-1)) (0 : Int32).toNatClampNeg 37)))] sz) := by
  refine Met.ofW (cc := cX9_set) (maxL := 4) (ret := none) (by decide) rfl ?_
  intro p e s m args below meth c s₁ B hml hv
  obtain ⟨rfl, hsz, hP, hK, hD0⟩ := hv
  have hx := B.exec
  have hb := B.bytes
  have hr := B.returns
  have hts := atoms_spec (ws := .code yX9_set cX9_set 4 none :: wP) B.pre
  have hw : ∀ w ∈ wP, w.before _ s = true := fun w h => hts w (List.mem_cons_of_mem _ h)
  have hown : s.vm.findClass RX9 = some m.cls := findClass_of_methodNamed B.named
  have hlocks := B.notSynchronized
  subst hsz
  have hD := hD0.self (sz := s.heap.size)
  generalize hAe : va_A [(h0, .inr (5, [.int 5, .int 1201, .ref h1, .int 1])), (h1, .inl (k0, 6005, .inl (upd (upd (upd (upd (upd (upd (fun _ => 0) (0 : Int32).toNatClampNeg (-1)) (1 : Int32).toNatClampNeg (-1)) (2 : Int32).toNatClampNeg (-1)) (3 : Int32).toNatClampNeg (-1)) (4 : Int32).toNatClampNeg (-1)) (0 : Int32).toNatClampNeg 37)))] s.heap.size = A at hD ⊢
  have hA : ∀ q : Nat, s.heap.size ≤ q → A q := fun q h => by rw [← hAe]; exact Or.inr h
  have hS : va_S A s.heap s.heap [] := va_S.rf
  have hP : va_P (dC, dI) vC [(h0, .inr (5, [.int 5, .int 1201, .ref h1, .int 1])), (h1, .inl (k0, 6005, .inl (upd (upd (upd (upd (upd (upd (fun _ => 0) (0 : Int32).toNatClampNeg (-1)) (1 : Int32).toNatClampNeg (-1)) (2 : Int32).toNatClampNeg (-1)) (3 : Int32).toNatClampNeg (-1)) (4 : Int32).toNatClampNeg (-1)) (0 : Int32).toNatClampNeg 37)))] s.heap := hP
  have hl := lv_entry ([.ref h0, .int 0, .int 1, .int 0]) (n := 4) (Nat.le_of_ble_eq_true rfl)
  rw [lg_entry_eq]
  generalize (lg_sl ([.ref h0, .int 0, .int 1, .int 0]) ++ List.replicate (4 - (lg_sl ([.ref h0, .int 0, .int 1, .int 0])).length) Slot.unset).toArray = ls at hl ⊢
  have hl : lv_has ls 4 [(0, .ref h0), (1, .int 0), (2, .int 1), (3, .int 0)] := hl
  refine lv_iload_n hx hb dX9_set_0 rfl (lv_at hl 1 rfl) ?_
  refine lv_if_lt (tgt := 38) hx hb dX9_set_1 (by decide) (fun c => absurd c (by decide +kernel)) (fun _ => ?_)
  refine lv_iload_n hx hb dX9_set_4 rfl (lv_at hl 1 rfl) ?_
  refine lv_aload_n hx hb dX9_set_5 rfl (lv_at hl 0 rfl) ?_
  refine va_get (D := (dC, dI)) (ci := 5) (v := .int 1) (C := RX9) (T := TX9) (N := 4) hx hb hw inX9 hown hK hP 0 rfl rfl 3 (by decide) (hw _ mP_263) (fun _ h9 => h9) rfl dX9_set_6 ?_
  refine lv_icmp_ge (tgt := 38) hx hb dX9_set_9 (by decide) (fun c => absurd c (by decide +kernel)) (fun _ => ?_)
  refine lv_iload_n hx hb dX9_set_12 rfl (lv_at hl 2 rfl) ?_
  refine lv_if_lt (tgt := 38) hx hb dX9_set_13 (by decide) (fun c => absurd c (by decide +kernel)) (fun _ => ?_)
  refine lv_iload_n hx hb dX9_set_16 rfl (lv_at hl 2 rfl) ?_
  refine lv_aload_n hx hb dX9_set_17 rfl (lv_at hl 0 rfl) ?_
  refine va_get (D := (dC, dI)) (ci := 5) (v := .int 5) (C := RX9) (T := TX9) (N := 4) hx hb hw inX9 hown hK hP 0 rfl rfl 0 (by decide) (hw _ mP_177) (fun _ h9 => h9) rfl dX9_set_18 ?_
  refine lv_icmp_ge (tgt := 38) hx hb dX9_set_21 (by decide) (fun c => absurd c (by decide +kernel)) (fun _ => ?_)
  refine lv_aload_n hx hb dX9_set_24 rfl (lv_at hl 0 rfl) ?_
  refine va_get (D := (dC, dI)) (ci := 5) (v := .ref h1) (C := RX9) (T := TX9) (N := 4) hx hb hw inX9 hown hK hP 0 rfl rfl 2 (by decide) (hw _ mP_179) (fun _ h9 => h9) rfl dX9_set_25 ?_
  refine lv_iload_n hx hb dX9_set_28 rfl (lv_at hl 1 rfl) ?_
  refine lv_aload_n hx hb dX9_set_29 rfl (lv_at hl 0 rfl) ?_
  refine va_get (D := (dC, dI)) (ci := 5) (v := .int 5) (C := RX9) (T := TX9) (N := 4) hx hb hw inX9 hown hK hP 0 rfl rfl 0 (by decide) (hw _ mP_177) (fun _ h9 => h9) rfl dX9_set_30 ?_
  refine lv_imul hx hb dX9_set_33 ?_
  refine lv_nmi (y := 0) (by decide +kernel) ?_
  refine lv_iload_n hx hb dX9_set_34 rfl (lv_at hl 2 rfl) ?_
  refine lv_iadd hx hb dX9_set_35 ?_
  refine lv_nmi (y := 1) (by decide +kernel) ?_
  refine lv_iload_n hx hb dX9_set_36 rfl (lv_at hl 3 rfl) ?_
  refine va_iast hx hb hK hP hD hS 1 0 rfl rfl (vin (by decide +kernel)) dX9_set_37 (fun H locs hP hD hS => ?_)
  have hP : va_P (dC, dI) vC [(h0, .inr (5, [.int 5, .int 1201, .ref h1, .int 1])), (h1, .inl (k0, 6005, .inl (upd (upd (upd (upd (upd (upd (upd (fun _ => 0) (0 : Int32).toNatClampNeg (-1)) (1 : Int32).toNatClampNeg (-1)) (2 : Int32).toNatClampNeg (-1)) (3 : Int32).toNatClampNeg (-1)) (4 : Int32).toNatClampNeg (-1)) (0 : Int32).toNatClampNeg 37) (1 : Int32).toNatClampNeg 0)))] H := hP
  have hD : va_D A [(h0, .inr (5, [.int 5, .int 1201, .ref h1, .int 1])), (h1, .inl (k0, 6005, .inl (upd (upd (upd (upd (upd (upd (upd (fun _ => 0) (0 : Int32).toNatClampNeg (-1)) (1 : Int32).toNatClampNeg (-1)) (2 : Int32).toNatClampNeg (-1)) (3 : Int32).toNatClampNeg (-1)) (4 : Int32).toNatClampNeg (-1)) (0 : Int32).toNatClampNeg 37) (1 : Int32).toNatClampNeg 0)))] := hD
  refine W.widen (k := 0) (n := 0) (Nat.le_of_ble_eq_true rfl) (Nat.le_of_ble_eq_true rfl) ?_
  exact W.vret hx hb hr (fun t ht hW => ⟨⟨(), rfl, trivial, by rw [ht]; exact hP, va_K.moved hW.alike hK, hD⟩, hS.F ht⟩) hS.2.2 dX9_set_38
set_option maxHeartbeats 4000000 in
set_option maxRecDepth 100000 in
theorem tX9_set_n3 (l : Launch) (dC : Nat → ClassId) (dI : Nat → Nat → Nat) (h0 h1 : Nat) (sz : Nat) (k0 : ClassId) : Met l yX9_set (.code yX9_set cX9_set 4 none :: wP) ({ frames := 0, cells := 0, slots := 0, locals := 0 }) (Pz dC dI [.ref h0, .int 0, .int 2, .int 0] sz [(h0, .inr (5, [.int 5, .int 1201, .ref h1, .int 1])), (h1, .inl (k0, 6005, .inl (upd (upd (upd (upd (upd (upd (upd (fun _ => 0) (0 : Int32).toNatClampNeg (-1)) (1 : Int32).toNatClampNeg (-1)) (2 : Int32).toNatClampNeg (-1)) (3 : Int32).toNatClampNeg (-1)) (4 : Int32).toNatClampNeg (-1)) (0 : Int32).toNatClampNeg 37) (1 : Int32).toNatClampNeg 0)))] [(k0, .int)]) (va_Qv (fun (_ : Unit) => True) (fun (_ : Unit) (t : State) => va_P (dC, dI) vC [(h0, .inr (5, [.int 5, .int 1201, .ref h1, .int 1])), (h1, .inl (k0, 6005, .inl (upd (upd (upd (upd (upd (upd (upd (upd (fun _ => 0) (0 : Int32).toNatClampNeg (-1)) (1 : Int32).toNatClampNeg (-1)) (2 : Int32).toNatClampNeg (-1)) (3 : Int32).toNatClampNeg (-1)) (4 : Int32).toNatClampNeg (-1)) (0 : Int32).toNatClampNeg 37) (1 : Int32).toNatClampNeg 0) (2 : Int32).toNatClampNeg 0)))] t.heap ∧ va_K (dC, dI) vC [(k0, .int)] t ∧ va_D (va_A [(h0, .inr (5, [.int 5, .int 1201, .ref h1, .int 1])), (h1, .inl (k0, 6005, .inl (upd (upd (upd (upd (upd (upd (upd (fun _ => 0) (0 : Int32).toNatClampNeg (-1)) (1 : Int32).toNatClampNeg (-1)) (2 : Int32).toNatClampNeg (-1)) (3 : Int32).toNatClampNeg (-1)) (4 : Int32).toNatClampNeg (-1)) (0 : Int32).toNatClampNeg 37) (1 : Int32).toNatClampNeg 0)))] sz) [(h0, .inr (5, [.int 5, .int 1201, .ref h1, .int 1])), (h1, .inl (k0, 6005, .inl (upd (upd (upd (upd (upd (upd (upd (upd (fun _ => 0) (0 : Int32).toNatClampNeg (-1)) (1 : Int32).toNatClampNeg (-1)) (2 : Int32).toNatClampNeg (-1)) (3 : Int32).toNatClampNeg (-1)) (4 : Int32).toNatClampNeg (-1)) (0 : Int32).toNatClampNeg 37) (1 : Int32).toNatClampNeg 0) (2 : Int32).toNatClampNeg 0)))]) (va_A [(h0, .inr (5, [.int 5, .int 1201, .ref h1, .int 1])), (h1, .inl (k0, 6005, .inl (upd (upd (upd (upd (upd (upd (upd (fun _ => 0) (0 : Int32).toNatClampNeg (-1)) (1 : Int32).toNatClampNeg (-1)) (2 : Int32).toNatClampNeg (-1)) (3 : Int32).toNatClampNeg (-1)) (4 : Int32).toNatClampNeg (-1)) (0 : Int32).toNatClampNeg 37) (1 : Int32).toNatClampNeg 0)))] sz)) 0 0 (va_A [(h0, .inr (5, [.int 5, .int 1201, .ref h1, .int 1])), (h1, .inl (k0, 6005, .inl (upd (upd (upd (upd (upd (upd (upd (fun _ => 0) (0 : Int32).toNatClampNeg (-1)) (1 : Int32).toNatClampNeg (-1)) (2 : Int32).toNatClampNeg (-1)) (3 : Int32).toNatClampNeg (-1)) (4 : Int32).toNatClampNeg (-1)) (0 : Int32).toNatClampNeg 37) (1 : Int32).toNatClampNeg 0)))] sz) := by
  refine Met.ofW (cc := cX9_set) (maxL := 4) (ret := none) (by decide) rfl ?_
  intro p e s m args below meth c s₁ B hml hv
  obtain ⟨rfl, hsz, hP, hK, hD0⟩ := hv
  have hx := B.exec
  have hb := B.bytes
  have hr := B.returns
  have hts := atoms_spec (ws := .code yX9_set cX9_set 4 none :: wP) B.pre
  have hw : ∀ w ∈ wP, w.before _ s = true := fun w h => hts w (List.mem_cons_of_mem _ h)
  have hown : s.vm.findClass RX9 = some m.cls := findClass_of_methodNamed B.named
  have hlocks := B.notSynchronized
  subst hsz
  have hD := hD0.self (sz := s.heap.size)
  generalize hAe : va_A [(h0, .inr (5, [.int 5, .int 1201, .ref h1, .int 1])), (h1, .inl (k0, 6005, .inl (upd (upd (upd (upd (upd (upd (upd (fun _ => 0) (0 : Int32).toNatClampNeg (-1)) (1 : Int32).toNatClampNeg (-1)) (2 : Int32).toNatClampNeg (-1)) (3 : Int32).toNatClampNeg (-1)) (4 : Int32).toNatClampNeg (-1)) (0 : Int32).toNatClampNeg 37) (1 : Int32).toNatClampNeg 0)))] s.heap.size = A at hD ⊢
  have hA : ∀ q : Nat, s.heap.size ≤ q → A q := fun q h => by rw [← hAe]; exact Or.inr h
  have hS : va_S A s.heap s.heap [] := va_S.rf
  have hP : va_P (dC, dI) vC [(h0, .inr (5, [.int 5, .int 1201, .ref h1, .int 1])), (h1, .inl (k0, 6005, .inl (upd (upd (upd (upd (upd (upd (upd (fun _ => 0) (0 : Int32).toNatClampNeg (-1)) (1 : Int32).toNatClampNeg (-1)) (2 : Int32).toNatClampNeg (-1)) (3 : Int32).toNatClampNeg (-1)) (4 : Int32).toNatClampNeg (-1)) (0 : Int32).toNatClampNeg 37) (1 : Int32).toNatClampNeg 0)))] s.heap := hP
  have hl := lv_entry ([.ref h0, .int 0, .int 2, .int 0]) (n := 4) (Nat.le_of_ble_eq_true rfl)
  rw [lg_entry_eq]
  generalize (lg_sl ([.ref h0, .int 0, .int 2, .int 0]) ++ List.replicate (4 - (lg_sl ([.ref h0, .int 0, .int 2, .int 0])).length) Slot.unset).toArray = ls at hl ⊢
  have hl : lv_has ls 4 [(0, .ref h0), (1, .int 0), (2, .int 2), (3, .int 0)] := hl
  refine lv_iload_n hx hb dX9_set_0 rfl (lv_at hl 1 rfl) ?_
  refine lv_if_lt (tgt := 38) hx hb dX9_set_1 (by decide) (fun c => absurd c (by decide +kernel)) (fun _ => ?_)
  refine lv_iload_n hx hb dX9_set_4 rfl (lv_at hl 1 rfl) ?_
  refine lv_aload_n hx hb dX9_set_5 rfl (lv_at hl 0 rfl) ?_
  refine va_get (D := (dC, dI)) (ci := 5) (v := .int 1) (C := RX9) (T := TX9) (N := 4) hx hb hw inX9 hown hK hP 0 rfl rfl 3 (by decide) (hw _ mP_263) (fun _ h9 => h9) rfl dX9_set_6 ?_
  refine lv_icmp_ge (tgt := 38) hx hb dX9_set_9 (by decide) (fun c => absurd c (by decide +kernel)) (fun _ => ?_)
  refine lv_iload_n hx hb dX9_set_12 rfl (lv_at hl 2 rfl) ?_
  refine lv_if_lt (tgt := 38) hx hb dX9_set_13 (by decide) (fun c => absurd c (by decide +kernel)) (fun _ => ?_)
  refine lv_iload_n hx hb dX9_set_16 rfl (lv_at hl 2 rfl) ?_
  refine lv_aload_n hx hb dX9_set_17 rfl (lv_at hl 0 rfl) ?_
  refine va_get (D := (dC, dI)) (ci := 5) (v := .int 5) (C := RX9) (T := TX9) (N := 4) hx hb hw inX9 hown hK hP 0 rfl rfl 0 (by decide) (hw _ mP_177) (fun _ h9 => h9) rfl dX9_set_18 ?_
  refine lv_icmp_ge (tgt := 38) hx hb dX9_set_21 (by decide) (fun c => absurd c (by decide +kernel)) (fun _ => ?_)
  refine lv_aload_n hx hb dX9_set_24 rfl (lv_at hl 0 rfl) ?_
  refine va_get (D := (dC, dI)) (ci := 5) (v := .ref h1) (C := RX9) (T := TX9) (N := 4) hx hb hw inX9 hown hK hP 0 rfl rfl 2 (by decide) (hw _ mP_179) (fun _ h9 => h9) rfl dX9_set_25 ?_
  refine lv_iload_n hx hb dX9_set_28 rfl (lv_at hl 1 rfl) ?_
  refine lv_aload_n hx hb dX9_set_29 rfl (lv_at hl 0 rfl) ?_
  refine va_get (D := (dC, dI)) (ci := 5) (v := .int 5) (C := RX9) (T := TX9) (N := 4) hx hb hw inX9 hown hK hP 0 rfl rfl 0 (by decide) (hw _ mP_177) (fun _ h9 => h9) rfl dX9_set_30 ?_
  refine lv_imul hx hb dX9_set_33 ?_
  refine lv_nmi (y := 0) (by decide +kernel) ?_
  refine lv_iload_n hx hb dX9_set_34 rfl (lv_at hl 2 rfl) ?_
  refine lv_iadd hx hb dX9_set_35 ?_
  refine lv_nmi (y := 2) (by decide +kernel) ?_
  refine lv_iload_n hx hb dX9_set_36 rfl (lv_at hl 3 rfl) ?_
  refine va_iast hx hb hK hP hD hS 1 0 rfl rfl (vin (by decide +kernel)) dX9_set_37 (fun H locs hP hD hS => ?_)
  have hP : va_P (dC, dI) vC [(h0, .inr (5, [.int 5, .int 1201, .ref h1, .int 1])), (h1, .inl (k0, 6005, .inl (upd (upd (upd (upd (upd (upd (upd (upd (fun _ => 0) (0 : Int32).toNatClampNeg (-1)) (1 : Int32).toNatClampNeg (-1)) (2 : Int32).toNatClampNeg (-1)) (3 : Int32).toNatClampNeg (-1)) (4 : Int32).toNatClampNeg (-1)) (0 : Int32).toNatClampNeg 37) (1 : Int32).toNatClampNeg 0) (2 : Int32).toNatClampNeg 0)))] H := hP
  have hD : va_D A [(h0, .inr (5, [.int 5, .int 1201, .ref h1, .int 1])), (h1, .inl (k0, 6005, .inl (upd (upd (upd (upd (upd (upd (upd (upd (fun _ => 0) (0 : Int32).toNatClampNeg (-1)) (1 : Int32).toNatClampNeg (-1)) (2 : Int32).toNatClampNeg (-1)) (3 : Int32).toNatClampNeg (-1)) (4 : Int32).toNatClampNeg (-1)) (0 : Int32).toNatClampNeg 37) (1 : Int32).toNatClampNeg 0) (2 : Int32).toNatClampNeg 0)))] := hD
  refine W.widen (k := 0) (n := 0) (Nat.le_of_ble_eq_true rfl) (Nat.le_of_ble_eq_true rfl) ?_
  exact W.vret hx hb hr (fun t ht hW => ⟨⟨(), rfl, trivial, by rw [ht]; exact hP, va_K.moved hW.alike hK, hD⟩, hS.F ht⟩) hS.2.2 dX9_set_38
set_option maxHeartbeats 4000000 in
set_option maxRecDepth 100000 in
theorem tX10_keep_n1 (l : Launch) (dC : Nat → ClassId) (dI : Nat → Nat → Nat) (h0 h1 h2 h3 h4 j0 : Nat) (sz : Nat) (k0 k1 k2 : ClassId) : Met l yX10_keep (.code yX10_keep cX10_keep 7 none :: wP) ({ frames := 3, cells := 0, slots := 0, locals := 66 }) (Pz dC dI [.ref h0, .int 37, .int 0, .int 0, .long 0] sz [(h0, .inr (6, [.ref h1, .ref h2, .ref j0, .ref h3, .int 0, .int 0, .int (-1)])), (h1, .inr (5, [.int 5, .int 1201, .ref h4, .int 0])), (h2, .inl (k0, 1201, .inr (.inl (fun _ => 0)))), (h3, .inl (k1, 4000, .inl (fun _ => 0))), (h4, .inl (k2, 6005, .inl (fun _ => 0)))] [(k0, .long), (k1, .byte), (k2, .int)]) (va_Qv (fun (_ : Unit) => True) (fun (_ : Unit) (t : State) => ∃ (f5 : Nat → Int64), va_P (dC, dI) vC [(h0, .inr (6, [.ref h1, .ref h2, .ref j0, .ref h3, .int 0, .int 0, .int (-1)])), (h2, .inl (k0, 1201, .inr (.inl f5))), (h3, .inl (k1, 4000, .inl (fun _ => 0))), (h1, .inr (5, [.int 5, .int 1201, .ref h4, .int 1])), (h4, .inl (k2, 6005, .inl (upd (upd (upd (upd (upd (upd (upd (upd (fun _ => 0) (0 : Int32).toNatClampNeg (-1)) (1 : Int32).toNatClampNeg (-1)) (2 : Int32).toNatClampNeg (-1)) (3 : Int32).toNatClampNeg (-1)) (4 : Int32).toNatClampNeg (-1)) (0 : Int32).toNatClampNeg 37) (1 : Int32).toNatClampNeg 0) (2 : Int32).toNatClampNeg 0)))] t.heap ∧ va_K (dC, dI) vC [(k0, .long), (k1, .byte), (k2, .int)] t ∧ va_D (va_A [(h0, .inr (6, [.ref h1, .ref h2, .ref j0, .ref h3, .int 0, .int 0, .int (-1)])), (h1, .inr (5, [.int 5, .int 1201, .ref h4, .int 0])), (h2, .inl (k0, 1201, .inr (.inl (fun _ => 0)))), (h3, .inl (k1, 4000, .inl (fun _ => 0))), (h4, .inl (k2, 6005, .inl (fun _ => 0)))] sz) [(h0, .inr (6, [.ref h1, .ref h2, .ref j0, .ref h3, .int 0, .int 0, .int (-1)])), (h2, .inl (k0, 1201, .inr (.inl f5))), (h3, .inl (k1, 4000, .inl (fun _ => 0))), (h1, .inr (5, [.int 5, .int 1201, .ref h4, .int 1])), (h4, .inl (k2, 6005, .inl (upd (upd (upd (upd (upd (upd (upd (upd (fun _ => 0) (0 : Int32).toNatClampNeg (-1)) (1 : Int32).toNatClampNeg (-1)) (2 : Int32).toNatClampNeg (-1)) (3 : Int32).toNatClampNeg (-1)) (4 : Int32).toNatClampNeg (-1)) (0 : Int32).toNatClampNeg 37) (1 : Int32).toNatClampNeg 0) (2 : Int32).toNatClampNeg 0)))]) (va_A [(h0, .inr (6, [.ref h1, .ref h2, .ref j0, .ref h3, .int 0, .int 0, .int (-1)])), (h1, .inr (5, [.int 5, .int 1201, .ref h4, .int 0])), (h2, .inl (k0, 1201, .inr (.inl (fun _ => 0)))), (h3, .inl (k1, 4000, .inl (fun _ => 0))), (h4, .inl (k2, 6005, .inl (fun _ => 0)))] sz)) 0 0 (va_A [(h0, .inr (6, [.ref h1, .ref h2, .ref j0, .ref h3, .int 0, .int 0, .int (-1)])), (h1, .inr (5, [.int 5, .int 1201, .ref h4, .int 0])), (h2, .inl (k0, 1201, .inr (.inl (fun _ => 0)))), (h3, .inl (k1, 4000, .inl (fun _ => 0))), (h4, .inl (k2, 6005, .inl (fun _ => 0)))] sz) := by
  refine Met.ofW (cc := cX10_keep) (maxL := 7) (ret := none) (by decide) rfl ?_
  intro p e s m args below meth c s₁ B hml hv
  obtain ⟨rfl, hsz, hP, hK, hD0⟩ := hv
  have hx := B.exec
  have hb := B.bytes
  have hr := B.returns
  have hts := atoms_spec (ws := .code yX10_keep cX10_keep 7 none :: wP) B.pre
  have hw : ∀ w ∈ wP, w.before _ s = true := fun w h => hts w (List.mem_cons_of_mem _ h)
  have hown : s.vm.findClass RX10 = some m.cls := findClass_of_methodNamed B.named
  have hlocks := B.notSynchronized
  subst hsz
  have hD := hD0.self (sz := s.heap.size)
  generalize hAe : va_A [(h0, .inr (6, [.ref h1, .ref h2, .ref j0, .ref h3, .int 0, .int 0, .int (-1)])), (h1, .inr (5, [.int 5, .int 1201, .ref h4, .int 0])), (h2, .inl (k0, 1201, .inr (.inl (fun _ => 0)))), (h3, .inl (k1, 4000, .inl (fun _ => 0))), (h4, .inl (k2, 6005, .inl (fun _ => 0)))] s.heap.size = A at hD ⊢
  have hA : ∀ q : Nat, s.heap.size ≤ q → A q := fun q h => by rw [← hAe]; exact Or.inr h
  have hS : va_S A s.heap s.heap [] := va_S.rf
  have hP : va_P (dC, dI) vC [(h0, .inr (6, [.ref h1, .ref h2, .ref j0, .ref h3, .int 0, .int 0, .int (-1)])), (h1, .inr (5, [.int 5, .int 1201, .ref h4, .int 0])), (h2, .inl (k0, 1201, .inr (.inl (fun _ => 0)))), (h3, .inl (k1, 4000, .inl (fun _ => 0))), (h4, .inl (k2, 6005, .inl (fun _ => 0)))] s.heap := hP
  have hl := lv_entry ([.ref h0, .int 37, .int 0, .int 0, .long 0]) (n := 7) (Nat.le_of_ble_eq_true rfl)
  rw [lg_entry_eq]
  generalize (lg_sl ([.ref h0, .int 37, .int 0, .int 0, .long 0]) ++ List.replicate (7 - (lg_sl ([.ref h0, .int 37, .int 0, .int 0, .long 0])).length) Slot.unset).toArray = ls at hl ⊢
  have hl : lv_has ls 7 [(0, .ref h0), (1, .int 37), (2, .int 0), (3, .int 0), (4, .long 0)] := hl
  refine lv_aload_n hx hb dX10_keep_0 rfl (lv_at hl 0 rfl) ?_
  refine va_get (D := (dC, dI)) (ci := 6) (v := .ref h1) (C := RX10) (T := TX10) (N := 7) hx hb hw inX10 hown hK hP 0 rfl rfl 0 (by decide) (hw _ mP_183) (fun _ h9 => h9) rfl dX10_keep_1 ?_
  have hPc := hP.sub (ws' := [(h1, .inr (5, [.int 5, .int 1201, .ref h4, .int 0])), (h4, .inl (k2, 6005, .inl (fun _ => 0)))]) [1, 4] rfl
  have hDc := hD.sub (ws' := [(h1, .inr (5, [.int 5, .int 1201, .ref h4, .int 0])), (h4, .inl (k2, 6005, .inl (fun _ => 0)))]) [1, 4] (by decide) rfl
  have hKc := hK.sub (tys' := [(k2, .int)]) [2] rfl
  have hFc := va_free (wc := [(h1, .inr (5, [.int 5, .int 1201, .ref h4, .int 0])), (h4, .inl (k2, 6005, .inl (fun _ => 0)))]) hD hS hA [1, 4] rfl
  refine va_calli (va_runV (As := []) (rest := []) ⟨hx, hb, hml, hown, hw⟩ (tX9_add_n1 l dC dI h1 h4 s.heap.size k2) ⟨callB_of 0 hw (gd mP_289) rfl rfl rfl (hw _ mP_171) (hw _ mP_290) hdX9_add ⟨Nat.le_of_ble_eq_true rfl, Nat.le_of_ble_eq_true rfl⟩, (hw _ mP_291), (hw _ mP_292)⟩ ⟨fbz, va_recv hKc hPc (ci := 5) (q0 := 0) rfl rfl, prz hPc hKc hDc⟩ rfl rfl hl.1 rfl (lv_room (Nat.le_of_ble_eq_true rfl)) dX10_keep_4 ⟨Nat.le_of_ble_eq_true rfl, Nat.le_of_ble_eq_true rfl⟩) hS (fun q _ h => hFc q h) hFc (fun r1 u1 t H1 locs ht hvm hpo hB hz1 hk1 hS => ?_)
  obtain ⟨hP1, hK1, hD1⟩ := hB
  rw [ht] at hP1
  have hK1 := va_K.moved hvm.symm hK1
  obtain ⟨hP, hD⟩ := va_join (wr := [(h0, .inr (6, [.ref h1, .ref h2, .ref j0, .ref h3, .int 0, .int 0, .int (-1)])), (h2, .inl (k0, 1201, .inr (.inl (fun _ => 0)))), (h3, .inl (k1, 4000, .inl (fun _ => 0)))]) (w1 := [(h1, .inr (5, [.int 5, .int 1201, .ref h4, .int 1])), (h4, .inl (k2, 6005, .inl (upd (upd (upd (upd (upd (fun _ => 0) (0 : Int32).toNatClampNeg (-1)) (1 : Int32).toNatClampNeg (-1)) (2 : Int32).toNatClampNeg (-1)) (3 : Int32).toNatClampNeg (-1)) (4 : Int32).toNatClampNeg (-1))))]) hP hD [1, 4] [0, 2, 3] rfl rfl (by decide) (by decide) hk1 hFc hP1 hD1
  have hK := (hK.sub (tys' := [(k0, .long), (k1, .byte)]) [0, 1] rfl).app hK1
  generalize H1 = H at hP hS ⊢
  have hP : va_P (dC, dI) vC [(h0, .inr (6, [.ref h1, .ref h2, .ref j0, .ref h3, .int 0, .int 0, .int (-1)])), (h2, .inl (k0, 1201, .inr (.inl (fun _ => 0)))), (h3, .inl (k1, 4000, .inl (fun _ => 0))), (h1, .inr (5, [.int 5, .int 1201, .ref h4, .int 1])), (h4, .inl (k2, 6005, .inl (upd (upd (upd (upd (upd (fun _ => 0) (0 : Int32).toNatClampNeg (-1)) (1 : Int32).toNatClampNeg (-1)) (2 : Int32).toNatClampNeg (-1)) (3 : Int32).toNatClampNeg (-1)) (4 : Int32).toNatClampNeg (-1))))] H := hP
  have hD : va_D A [(h0, .inr (6, [.ref h1, .ref h2, .ref j0, .ref h3, .int 0, .int 0, .int (-1)])), (h2, .inl (k0, 1201, .inr (.inl (fun _ => 0)))), (h3, .inl (k1, 4000, .inl (fun _ => 0))), (h1, .inr (5, [.int 5, .int 1201, .ref h4, .int 1])), (h4, .inl (k2, 6005, .inl (upd (upd (upd (upd (upd (fun _ => 0) (0 : Int32).toNatClampNeg (-1)) (1 : Int32).toNatClampNeg (-1)) (2 : Int32).toNatClampNeg (-1)) (3 : Int32).toNatClampNeg (-1)) (4 : Int32).toNatClampNeg (-1))))] := hD
  have hK : va_K (dC, dI) vC [(k0, .long), (k1, .byte), (k2, .int)] s := hK
  have hpo : r1 = 0 := hpo
  subst hpo
  refine lv_istore (lv' := [(6, .int 0), (0, .ref h0), (1, .int 37), (2, .int 0), (3, .int 0), (4, .long 0)]) hx hb dX10_keep_7 hl (by decide) rfl (fun ls hl => ?_)
  refine lv_iload hx hb dX10_keep_9 (lv_at hl 0 rfl) ?_
  refine lv_if_lt (tgt := 66) hx hb dX10_keep_11 (by decide) (fun c => absurd c (by decide +kernel)) (fun _ => ?_)
  refine lv_iload hx hb dX10_keep_14 (lv_at hl 0 rfl) ?_
  refine lv_aload_n hx hb dX10_keep_16 rfl (lv_at hl 1 rfl) ?_
  refine va_get (D := (dC, dI)) (ci := 6) (v := .ref h2) (C := RX10) (T := TX10) (N := 7) hx hb hw inX10 hown hK hP 0 rfl rfl 1 (by decide) (hw _ mP_185) (fun _ h9 => h9) rfl dX10_keep_17 ?_
  refine va_alen (v := 1201) hx hb hK hP 1 0 rfl rfl (show Int32.ofNat 1201 = 1201 by decide +kernel) dX10_keep_20 ?_
  refine lv_icmp_ge (tgt := 66) hx hb dX10_keep_21 (by decide) (fun c => absurd c (by decide +kernel)) (fun _ => ?_)
  refine lv_aload_n hx hb dX10_keep_24 rfl (lv_at hl 1 rfl) ?_
  refine va_get (D := (dC, dI)) (ci := 6) (v := .ref h1) (C := RX10) (T := TX10) (N := 7) hx hb hw inX10 hown hK hP 0 rfl rfl 0 (by decide) (hw _ mP_183) (fun _ h9 => h9) rfl dX10_keep_25 ?_
  refine lv_iload hx hb dX10_keep_28 (lv_at hl 0 rfl) ?_
  refine lv_iconst (v := 0) hx hb dX10_keep_30 (by decide) ?_
  refine lv_iload_n hx hb dX10_keep_31 rfl (lv_at hl 2 rfl) ?_
  have hPc := hP.sub (ws' := [(h1, .inr (5, [.int 5, .int 1201, .ref h4, .int 1])), (h4, .inl (k2, 6005, .inl (upd (upd (upd (upd (upd (fun _ => 0) (0 : Int32).toNatClampNeg (-1)) (1 : Int32).toNatClampNeg (-1)) (2 : Int32).toNatClampNeg (-1)) (3 : Int32).toNatClampNeg (-1)) (4 : Int32).toNatClampNeg (-1))))]) [3, 4] rfl
  have hDc := hD.sub (ws' := [(h1, .inr (5, [.int 5, .int 1201, .ref h4, .int 1])), (h4, .inl (k2, 6005, .inl (upd (upd (upd (upd (upd (fun _ => 0) (0 : Int32).toNatClampNeg (-1)) (1 : Int32).toNatClampNeg (-1)) (2 : Int32).toNatClampNeg (-1)) (3 : Int32).toNatClampNeg (-1)) (4 : Int32).toNatClampNeg (-1))))]) [3, 4] (by decide) rfl
  have hKc := hK.sub (tys' := [(k2, .int)]) [2] rfl
  have hFc := va_free (wc := [(h1, .inr (5, [.int 5, .int 1201, .ref h4, .int 1])), (h4, .inl (k2, 6005, .inl (upd (upd (upd (upd (upd (fun _ => 0) (0 : Int32).toNatClampNeg (-1)) (1 : Int32).toNatClampNeg (-1)) (2 : Int32).toNatClampNeg (-1)) (3 : Int32).toNatClampNeg (-1)) (4 : Int32).toNatClampNeg (-1))))]) hD hS hA [3, 4] rfl
  refine va_callv (va_runV (As := [.int 0, .int 0, .int 37]) (rest := []) ⟨hx, hb, hml, hown, hw⟩ (tX9_set_n1 l dC dI h1 h4 H.size k2) ⟨callB_of 3 hw (gd mP_293) rfl rfl rfl (hw _ mP_171) (hw _ mP_294) hdX9_set ⟨Nat.le_of_ble_eq_true rfl, Nat.le_of_ble_eq_true rfl⟩, (hw _ mP_295), (hw _ mP_296)⟩ ⟨fbz, va_recv hKc hPc (ci := 5) (q0 := 0) rfl rfl, prz hPc hKc hDc⟩ rfl rfl hl.1 rfl (lv_room (Nat.le_of_ble_eq_true rfl)) dX10_keep_32 ⟨Nat.le_of_ble_eq_true rfl, Nat.le_of_ble_eq_true rfl⟩) hS (fun q _ h => hFc q h) hFc (fun u2 t H1 locs ht hvm hpo hB hz1 hk1 hS => ?_)
  obtain ⟨hP1, hK1, hD1⟩ := hB
  rw [ht] at hP1
  have hK1 := va_K.moved hvm.symm hK1
  obtain ⟨hP, hD⟩ := va_join (wr := [(h0, .inr (6, [.ref h1, .ref h2, .ref j0, .ref h3, .int 0, .int 0, .int (-1)])), (h2, .inl (k0, 1201, .inr (.inl (fun _ => 0)))), (h3, .inl (k1, 4000, .inl (fun _ => 0)))]) (w1 := [(h1, .inr (5, [.int 5, .int 1201, .ref h4, .int 1])), (h4, .inl (k2, 6005, .inl (upd (upd (upd (upd (upd (upd (fun _ => 0) (0 : Int32).toNatClampNeg (-1)) (1 : Int32).toNatClampNeg (-1)) (2 : Int32).toNatClampNeg (-1)) (3 : Int32).toNatClampNeg (-1)) (4 : Int32).toNatClampNeg (-1)) (0 : Int32).toNatClampNeg 37)))]) hP hD [3, 4] [0, 1, 2] rfl rfl (by decide) (by decide) hk1 hFc hP1 hD1
  have hK := (hK.sub (tys' := [(k0, .long), (k1, .byte)]) [0, 1] rfl).app hK1
  generalize H1 = H at hP hS ⊢
  have hP : va_P (dC, dI) vC [(h0, .inr (6, [.ref h1, .ref h2, .ref j0, .ref h3, .int 0, .int 0, .int (-1)])), (h2, .inl (k0, 1201, .inr (.inl (fun _ => 0)))), (h3, .inl (k1, 4000, .inl (fun _ => 0))), (h1, .inr (5, [.int 5, .int 1201, .ref h4, .int 1])), (h4, .inl (k2, 6005, .inl (upd (upd (upd (upd (upd (upd (fun _ => 0) (0 : Int32).toNatClampNeg (-1)) (1 : Int32).toNatClampNeg (-1)) (2 : Int32).toNatClampNeg (-1)) (3 : Int32).toNatClampNeg (-1)) (4 : Int32).toNatClampNeg (-1)) (0 : Int32).toNatClampNeg 37)))] H := hP
  have hD : va_D A [(h0, .inr (6, [.ref h1, .ref h2, .ref j0, .ref h3, .int 0, .int 0, .int (-1)])), (h2, .inl (k0, 1201, .inr (.inl (fun _ => 0)))), (h3, .inl (k1, 4000, .inl (fun _ => 0))), (h1, .inr (5, [.int 5, .int 1201, .ref h4, .int 1])), (h4, .inl (k2, 6005, .inl (upd (upd (upd (upd (upd (upd (fun _ => 0) (0 : Int32).toNatClampNeg (-1)) (1 : Int32).toNatClampNeg (-1)) (2 : Int32).toNatClampNeg (-1)) (3 : Int32).toNatClampNeg (-1)) (4 : Int32).toNatClampNeg (-1)) (0 : Int32).toNatClampNeg 37)))] := hD
  have hK : va_K (dC, dI) vC [(k0, .long), (k1, .byte), (k2, .int)] s := hK
  refine lv_aload_n hx hb dX10_keep_35 rfl (lv_at hl 1 rfl) ?_
  refine va_get (D := (dC, dI)) (ci := 6) (v := .ref h1) (C := RX10) (T := TX10) (N := 7) hx hb hw inX10 hown hK hP 0 rfl rfl 0 (by decide) (hw _ mP_183) (fun _ h9 => h9) rfl dX10_keep_36 ?_
  refine lv_iload hx hb dX10_keep_39 (lv_at hl 0 rfl) ?_
  refine lv_iconst (v := 1) hx hb dX10_keep_41 (by decide) ?_
  refine lv_iload_n hx hb dX10_keep_42 rfl (lv_at hl 3 rfl) ?_
  have hPc := hP.sub (ws' := [(h1, .inr (5, [.int 5, .int 1201, .ref h4, .int 1])), (h4, .inl (k2, 6005, .inl (upd (upd (upd (upd (upd (upd (fun _ => 0) (0 : Int32).toNatClampNeg (-1)) (1 : Int32).toNatClampNeg (-1)) (2 : Int32).toNatClampNeg (-1)) (3 : Int32).toNatClampNeg (-1)) (4 : Int32).toNatClampNeg (-1)) (0 : Int32).toNatClampNeg 37)))]) [3, 4] rfl
  have hDc := hD.sub (ws' := [(h1, .inr (5, [.int 5, .int 1201, .ref h4, .int 1])), (h4, .inl (k2, 6005, .inl (upd (upd (upd (upd (upd (upd (fun _ => 0) (0 : Int32).toNatClampNeg (-1)) (1 : Int32).toNatClampNeg (-1)) (2 : Int32).toNatClampNeg (-1)) (3 : Int32).toNatClampNeg (-1)) (4 : Int32).toNatClampNeg (-1)) (0 : Int32).toNatClampNeg 37)))]) [3, 4] (by decide) rfl
  have hKc := hK.sub (tys' := [(k2, .int)]) [2] rfl
  have hFc := va_free (wc := [(h1, .inr (5, [.int 5, .int 1201, .ref h4, .int 1])), (h4, .inl (k2, 6005, .inl (upd (upd (upd (upd (upd (upd (fun _ => 0) (0 : Int32).toNatClampNeg (-1)) (1 : Int32).toNatClampNeg (-1)) (2 : Int32).toNatClampNeg (-1)) (3 : Int32).toNatClampNeg (-1)) (4 : Int32).toNatClampNeg (-1)) (0 : Int32).toNatClampNeg 37)))]) hD hS hA [3, 4] rfl
  refine va_callv (va_runV (As := [.int 0, .int 1, .int 0]) (rest := []) ⟨hx, hb, hml, hown, hw⟩ (tX9_set_n2 l dC dI h1 h4 H.size k2) ⟨callB_of 3 hw (gd mP_293) rfl rfl rfl (hw _ mP_171) (hw _ mP_294) hdX9_set ⟨Nat.le_of_ble_eq_true rfl, Nat.le_of_ble_eq_true rfl⟩, (hw _ mP_295), (hw _ mP_296)⟩ ⟨fbz, va_recv hKc hPc (ci := 5) (q0 := 0) rfl rfl, prz hPc hKc hDc⟩ rfl rfl hl.1 rfl (lv_room (Nat.le_of_ble_eq_true rfl)) dX10_keep_43 ⟨Nat.le_of_ble_eq_true rfl, Nat.le_of_ble_eq_true rfl⟩) hS (fun q _ h => hFc q h) hFc (fun u3 t H1 locs ht hvm hpo hB hz1 hk1 hS => ?_)
  obtain ⟨hP1, hK1, hD1⟩ := hB
  rw [ht] at hP1
  have hK1 := va_K.moved hvm.symm hK1
  obtain ⟨hP, hD⟩ := va_join (wr := [(h0, .inr (6, [.ref h1, .ref h2, .ref j0, .ref h3, .int 0, .int 0, .int (-1)])), (h2, .inl (k0, 1201, .inr (.inl (fun _ => 0)))), (h3, .inl (k1, 4000, .inl (fun _ => 0)))]) (w1 := [(h1, .inr (5, [.int 5, .int 1201, .ref h4, .int 1])), (h4, .inl (k2, 6005, .inl (upd (upd (upd (upd (upd (upd (upd (fun _ => 0) (0 : Int32).toNatClampNeg (-1)) (1 : Int32).toNatClampNeg (-1)) (2 : Int32).toNatClampNeg (-1)) (3 : Int32).toNatClampNeg (-1)) (4 : Int32).toNatClampNeg (-1)) (0 : Int32).toNatClampNeg 37) (1 : Int32).toNatClampNeg 0)))]) hP hD [3, 4] [0, 1, 2] rfl rfl (by decide) (by decide) hk1 hFc hP1 hD1
  have hK := (hK.sub (tys' := [(k0, .long), (k1, .byte)]) [0, 1] rfl).app hK1
  generalize H1 = H at hP hS ⊢
  have hP : va_P (dC, dI) vC [(h0, .inr (6, [.ref h1, .ref h2, .ref j0, .ref h3, .int 0, .int 0, .int (-1)])), (h2, .inl (k0, 1201, .inr (.inl (fun _ => 0)))), (h3, .inl (k1, 4000, .inl (fun _ => 0))), (h1, .inr (5, [.int 5, .int 1201, .ref h4, .int 1])), (h4, .inl (k2, 6005, .inl (upd (upd (upd (upd (upd (upd (upd (fun _ => 0) (0 : Int32).toNatClampNeg (-1)) (1 : Int32).toNatClampNeg (-1)) (2 : Int32).toNatClampNeg (-1)) (3 : Int32).toNatClampNeg (-1)) (4 : Int32).toNatClampNeg (-1)) (0 : Int32).toNatClampNeg 37) (1 : Int32).toNatClampNeg 0)))] H := hP
  have hD : va_D A [(h0, .inr (6, [.ref h1, .ref h2, .ref j0, .ref h3, .int 0, .int 0, .int (-1)])), (h2, .inl (k0, 1201, .inr (.inl (fun _ => 0)))), (h3, .inl (k1, 4000, .inl (fun _ => 0))), (h1, .inr (5, [.int 5, .int 1201, .ref h4, .int 1])), (h4, .inl (k2, 6005, .inl (upd (upd (upd (upd (upd (upd (upd (fun _ => 0) (0 : Int32).toNatClampNeg (-1)) (1 : Int32).toNatClampNeg (-1)) (2 : Int32).toNatClampNeg (-1)) (3 : Int32).toNatClampNeg (-1)) (4 : Int32).toNatClampNeg (-1)) (0 : Int32).toNatClampNeg 37) (1 : Int32).toNatClampNeg 0)))] := hD
  have hK : va_K (dC, dI) vC [(k0, .long), (k1, .byte), (k2, .int)] s := hK
  refine lv_aload_n hx hb dX10_keep_46 rfl (lv_at hl 1 rfl) ?_
  refine va_get (D := (dC, dI)) (ci := 6) (v := .ref h1) (C := RX10) (T := TX10) (N := 7) hx hb hw inX10 hown hK hP 0 rfl rfl 0 (by decide) (hw _ mP_183) (fun _ h9 => h9) rfl dX10_keep_47 ?_
  refine lv_iload hx hb dX10_keep_50 (lv_at hl 0 rfl) ?_
  refine lv_iconst (v := 2) hx hb dX10_keep_52 (by decide) ?_
  refine lv_iload_n hx hb dX10_keep_53 rfl (lv_at hl 4 rfl) ?_
  have hPc := hP.sub (ws' := [(h1, .inr (5, [.int 5, .int 1201, .ref h4, .int 1])), (h4, .inl (k2, 6005, .inl (upd (upd (upd (upd (upd (upd (upd (fun _ => 0) (0 : Int32).toNatClampNeg (-1)) (1 : Int32).toNatClampNeg (-1)) (2 : Int32).toNatClampNeg (-1)) (3 : Int32).toNatClampNeg (-1)) (4 : Int32).toNatClampNeg (-1)) (0 : Int32).toNatClampNeg 37) (1 : Int32).toNatClampNeg 0)))]) [3, 4] rfl
  have hDc := hD.sub (ws' := [(h1, .inr (5, [.int 5, .int 1201, .ref h4, .int 1])), (h4, .inl (k2, 6005, .inl (upd (upd (upd (upd (upd (upd (upd (fun _ => 0) (0 : Int32).toNatClampNeg (-1)) (1 : Int32).toNatClampNeg (-1)) (2 : Int32).toNatClampNeg (-1)) (3 : Int32).toNatClampNeg (-1)) (4 : Int32).toNatClampNeg (-1)) (0 : Int32).toNatClampNeg 37) (1 : Int32).toNatClampNeg 0)))]) [3, 4] (by decide) rfl
  have hKc := hK.sub (tys' := [(k2, .int)]) [2] rfl
  have hFc := va_free (wc := [(h1, .inr (5, [.int 5, .int 1201, .ref h4, .int 1])), (h4, .inl (k2, 6005, .inl (upd (upd (upd (upd (upd (upd (upd (fun _ => 0) (0 : Int32).toNatClampNeg (-1)) (1 : Int32).toNatClampNeg (-1)) (2 : Int32).toNatClampNeg (-1)) (3 : Int32).toNatClampNeg (-1)) (4 : Int32).toNatClampNeg (-1)) (0 : Int32).toNatClampNeg 37) (1 : Int32).toNatClampNeg 0)))]) hD hS hA [3, 4] rfl
  refine va_callv (va_runV (As := [.int 0, .int 2, .int 0]) (rest := []) ⟨hx, hb, hml, hown, hw⟩ (tX9_set_n3 l dC dI h1 h4 H.size k2) ⟨callB_of 3 hw (gd mP_293) rfl rfl rfl (hw _ mP_171) (hw _ mP_294) hdX9_set ⟨Nat.le_of_ble_eq_true rfl, Nat.le_of_ble_eq_true rfl⟩, (hw _ mP_295), (hw _ mP_296)⟩ ⟨fbz, va_recv hKc hPc (ci := 5) (q0 := 0) rfl rfl, prz hPc hKc hDc⟩ rfl rfl hl.1 rfl (lv_room (Nat.le_of_ble_eq_true rfl)) dX10_keep_54 ⟨Nat.le_of_ble_eq_true rfl, Nat.le_of_ble_eq_true rfl⟩) hS (fun q _ h => hFc q h) hFc (fun u4 t H1 locs ht hvm hpo hB hz1 hk1 hS => ?_)
  obtain ⟨hP1, hK1, hD1⟩ := hB
  rw [ht] at hP1
  have hK1 := va_K.moved hvm.symm hK1
  obtain ⟨hP, hD⟩ := va_join (wr := [(h0, .inr (6, [.ref h1, .ref h2, .ref j0, .ref h3, .int 0, .int 0, .int (-1)])), (h2, .inl (k0, 1201, .inr (.inl (fun _ => 0)))), (h3, .inl (k1, 4000, .inl (fun _ => 0)))]) (w1 := [(h1, .inr (5, [.int 5, .int 1201, .ref h4, .int 1])), (h4, .inl (k2, 6005, .inl (upd (upd (upd (upd (upd (upd (upd (upd (fun _ => 0) (0 : Int32).toNatClampNeg (-1)) (1 : Int32).toNatClampNeg (-1)) (2 : Int32).toNatClampNeg (-1)) (3 : Int32).toNatClampNeg (-1)) (4 : Int32).toNatClampNeg (-1)) (0 : Int32).toNatClampNeg 37) (1 : Int32).toNatClampNeg 0) (2 : Int32).toNatClampNeg 0)))]) hP hD [3, 4] [0, 1, 2] rfl rfl (by decide) (by decide) hk1 hFc hP1 hD1
  have hK := (hK.sub (tys' := [(k0, .long), (k1, .byte)]) [0, 1] rfl).app hK1
  generalize H1 = H at hP hS ⊢
  have hP : va_P (dC, dI) vC [(h0, .inr (6, [.ref h1, .ref h2, .ref j0, .ref h3, .int 0, .int 0, .int (-1)])), (h2, .inl (k0, 1201, .inr (.inl (fun _ => 0)))), (h3, .inl (k1, 4000, .inl (fun _ => 0))), (h1, .inr (5, [.int 5, .int 1201, .ref h4, .int 1])), (h4, .inl (k2, 6005, .inl (upd (upd (upd (upd (upd (upd (upd (upd (fun _ => 0) (0 : Int32).toNatClampNeg (-1)) (1 : Int32).toNatClampNeg (-1)) (2 : Int32).toNatClampNeg (-1)) (3 : Int32).toNatClampNeg (-1)) (4 : Int32).toNatClampNeg (-1)) (0 : Int32).toNatClampNeg 37) (1 : Int32).toNatClampNeg 0) (2 : Int32).toNatClampNeg 0)))] H := hP
  have hD : va_D A [(h0, .inr (6, [.ref h1, .ref h2, .ref j0, .ref h3, .int 0, .int 0, .int (-1)])), (h2, .inl (k0, 1201, .inr (.inl (fun _ => 0)))), (h3, .inl (k1, 4000, .inl (fun _ => 0))), (h1, .inr (5, [.int 5, .int 1201, .ref h4, .int 1])), (h4, .inl (k2, 6005, .inl (upd (upd (upd (upd (upd (upd (upd (upd (fun _ => 0) (0 : Int32).toNatClampNeg (-1)) (1 : Int32).toNatClampNeg (-1)) (2 : Int32).toNatClampNeg (-1)) (3 : Int32).toNatClampNeg (-1)) (4 : Int32).toNatClampNeg (-1)) (0 : Int32).toNatClampNeg 37) (1 : Int32).toNatClampNeg 0) (2 : Int32).toNatClampNeg 0)))] := hD
  have hK : va_K (dC, dI) vC [(k0, .long), (k1, .byte), (k2, .int)] s := hK
  refine lv_aload_n hx hb dX10_keep_57 rfl (lv_at hl 1 rfl) ?_
  refine va_get (D := (dC, dI)) (ci := 6) (v := .ref h2) (C := RX10) (T := TX10) (N := 7) hx hb hw inX10 hown hK hP 0 rfl rfl 1 (by decide) (hw _ mP_185) (fun _ h9 => h9) rfl dX10_keep_58 ?_
  refine lv_iload hx hb dX10_keep_61 (lv_at hl 0 rfl) ?_
  refine lv_lload hx hb dX10_keep_63 (lv_at hl 5 rfl) ?_
  refine va_last hx hb hK hP hD hS 1 0 rfl rfl (vin (by decide +kernel)) dX10_keep_65 (fun H locs hP hD hS => ?_)
  obtain ⟨f5, hP, hD⟩ : ∃ f5 : Nat → Int64, va_P (dC, dI) vC [(h0, .inr (6, [.ref h1, .ref h2, .ref j0, .ref h3, .int 0, .int 0, .int (-1)])), (h2, .inl (k0, 1201, .inr (.inl f5))), (h3, .inl (k1, 4000, .inl (fun _ => 0))), (h1, .inr (5, [.int 5, .int 1201, .ref h4, .int 1])), (h4, .inl (k2, 6005, .inl (upd (upd (upd (upd (upd (upd (upd (upd (fun _ => 0) (0 : Int32).toNatClampNeg (-1)) (1 : Int32).toNatClampNeg (-1)) (2 : Int32).toNatClampNeg (-1)) (3 : Int32).toNatClampNeg (-1)) (4 : Int32).toNatClampNeg (-1)) (0 : Int32).toNatClampNeg 37) (1 : Int32).toNatClampNeg 0) (2 : Int32).toNatClampNeg 0)))] H ∧ va_D A [(h0, .inr (6, [.ref h1, .ref h2, .ref j0, .ref h3, .int 0, .int 0, .int (-1)])), (h2, .inl (k0, 1201, .inr (.inl f5))), (h3, .inl (k1, 4000, .inl (fun _ => 0))), (h1, .inr (5, [.int 5, .int 1201, .ref h4, .int 1])), (h4, .inl (k2, 6005, .inl (upd (upd (upd (upd (upd (upd (upd (upd (fun _ => 0) (0 : Int32).toNatClampNeg (-1)) (1 : Int32).toNatClampNeg (-1)) (2 : Int32).toNatClampNeg (-1)) (3 : Int32).toNatClampNeg (-1)) (4 : Int32).toNatClampNeg (-1)) (0 : Int32).toNatClampNeg 37) (1 : Int32).toNatClampNeg 0) (2 : Int32).toNatClampNeg 0)))] := ⟨_, hP, hD⟩
  refine W.widen (k := 0) (n := 0) (Nat.le_of_ble_eq_true rfl) (Nat.le_of_ble_eq_true rfl) ?_
  exact W.vret hx hb hr (fun t ht hW => ⟨⟨(), rfl, trivial, f5, by rw [ht]; exact hP, va_K.moved hW.alike hK, hD⟩, hS.F ht⟩) hS.2.2 dX10_keep_66
set_option maxHeartbeats 4000000 in
set_option maxRecDepth 100000 in
theorem tX10_scanToken_n1 (l : Launch) (dC : Nat → ClassId) (dI : Nat → Nat → Nat) (h0 h1 h2 h3 h4 j0 : Nat) (sz : Nat) (k0 k1 k2 : ClassId) : Met l yX10_scanToken (.code yX10_scanToken cX10_scanToken 3 (some .int) :: wP) ({ frames := 4, cells := 0, slots := 0, locals := 92 }) (Pz dC dI [.ref h0, .int 0] sz [(h0, .inr (6, [.ref h1, .ref h2, .ref j0, .ref h3, .int 0, .int 0, .int (-1)])), (h1, .inr (5, [.int 5, .int 1201, .ref h4, .int 0])), (h2, .inl (k0, 1201, .inr (.inl (fun _ => 0)))), (h3, .inl (k1, 4000, .inl (fun _ => 0))), (h4, .inl (k2, 6005, .inl (fun _ => 0)))] [(k0, .long), (k1, .byte), (k2, .int)]) (va_Qi (fun (r : Int32) (_ : Unit) => r = 1) (fun (_ : Unit) (t : State) => ∃ (f5 : Nat → Int64), va_P (dC, dI) vC [(h0, .inr (6, [.ref h1, .ref h2, .ref j0, .ref h3, .int 0, .int 0, .int (-1)])), (h2, .inl (k0, 1201, .inr (.inl f5))), (h3, .inl (k1, 4000, .inl (fun _ => 0))), (h1, .inr (5, [.int 5, .int 1201, .ref h4, .int 1])), (h4, .inl (k2, 6005, .inl (upd (upd (upd (upd (upd (upd (upd (upd (fun _ => 0) (0 : Int32).toNatClampNeg (-1)) (1 : Int32).toNatClampNeg (-1)) (2 : Int32).toNatClampNeg (-1)) (3 : Int32).toNatClampNeg (-1)) (4 : Int32).toNatClampNeg (-1)) (0 : Int32).toNatClampNeg 37) (1 : Int32).toNatClampNeg 0) (2 : Int32).toNatClampNeg 0)))] t.heap ∧ va_K (dC, dI) vC [(k0, .long), (k1, .byte), (k2, .int)] t ∧ va_D (va_A [(h0, .inr (6, [.ref h1, .ref h2, .ref j0, .ref h3, .int 0, .int 0, .int (-1)])), (h1, .inr (5, [.int 5, .int 1201, .ref h4, .int 0])), (h2, .inl (k0, 1201, .inr (.inl (fun _ => 0)))), (h3, .inl (k1, 4000, .inl (fun _ => 0))), (h4, .inl (k2, 6005, .inl (fun _ => 0)))] sz) [(h0, .inr (6, [.ref h1, .ref h2, .ref j0, .ref h3, .int 0, .int 0, .int (-1)])), (h2, .inl (k0, 1201, .inr (.inl f5))), (h3, .inl (k1, 4000, .inl (fun _ => 0))), (h1, .inr (5, [.int 5, .int 1201, .ref h4, .int 1])), (h4, .inl (k2, 6005, .inl (upd (upd (upd (upd (upd (upd (upd (upd (fun _ => 0) (0 : Int32).toNatClampNeg (-1)) (1 : Int32).toNatClampNeg (-1)) (2 : Int32).toNatClampNeg (-1)) (3 : Int32).toNatClampNeg (-1)) (4 : Int32).toNatClampNeg (-1)) (0 : Int32).toNatClampNeg 37) (1 : Int32).toNatClampNeg 0) (2 : Int32).toNatClampNeg 0)))]) (va_A [(h0, .inr (6, [.ref h1, .ref h2, .ref j0, .ref h3, .int 0, .int 0, .int (-1)])), (h1, .inr (5, [.int 5, .int 1201, .ref h4, .int 0])), (h2, .inl (k0, 1201, .inr (.inl (fun _ => 0)))), (h3, .inl (k1, 4000, .inl (fun _ => 0))), (h4, .inl (k2, 6005, .inl (fun _ => 0)))] sz)) 0 0 (va_A [(h0, .inr (6, [.ref h1, .ref h2, .ref j0, .ref h3, .int 0, .int 0, .int (-1)])), (h1, .inr (5, [.int 5, .int 1201, .ref h4, .int 0])), (h2, .inl (k0, 1201, .inr (.inl (fun _ => 0)))), (h3, .inl (k1, 4000, .inl (fun _ => 0))), (h4, .inl (k2, 6005, .inl (fun _ => 0)))] sz) := by
  refine Met.ofW (cc := cX10_scanToken) (maxL := 3) (ret := (some .int)) (by decide) rfl ?_
  intro p e s m args below meth c s₁ B hml hv
  obtain ⟨rfl, hsz, hP, hK, hD0⟩ := hv
  have hx := B.exec
  have hb := B.bytes
  have hr := B.returns
  have hts := atoms_spec (ws := .code yX10_scanToken cX10_scanToken 3 (some .int) :: wP) B.pre
  have hw : ∀ w ∈ wP, w.before _ s = true := fun w h => hts w (List.mem_cons_of_mem _ h)
  have hown : s.vm.findClass RX10 = some m.cls := findClass_of_methodNamed B.named
  have hlocks := B.notSynchronized
  subst hsz
  have hD := hD0.self (sz := s.heap.size)
  generalize hAe : va_A [(h0, .inr (6, [.ref h1, .ref h2, .ref j0, .ref h3, .int 0, .int 0, .int (-1)])), (h1, .inr (5, [.int 5, .int 1201, .ref h4, .int 0])), (h2, .inl (k0, 1201, .inr (.inl (fun _ => 0)))), (h3, .inl (k1, 4000, .inl (fun _ => 0))), (h4, .inl (k2, 6005, .inl (fun _ => 0)))] s.heap.size = A at hD ⊢
  have hA : ∀ q : Nat, s.heap.size ≤ q → A q := fun q h => by rw [← hAe]; exact Or.inr h
  have hS : va_S A s.heap s.heap [] := va_S.rf
  have hP : va_P (dC, dI) vC [(h0, .inr (6, [.ref h1, .ref h2, .ref j0, .ref h3, .int 0, .int 0, .int (-1)])), (h1, .inr (5, [.int 5, .int 1201, .ref h4, .int 0])), (h2, .inl (k0, 1201, .inr (.inl (fun _ => 0)))), (h3, .inl (k1, 4000, .inl (fun _ => 0))), (h4, .inl (k2, 6005, .inl (fun _ => 0)))] s.heap := hP
  have hl := lv_entry ([.ref h0, .int 0]) (n := 3) (Nat.le_of_ble_eq_true rfl)
  rw [lg_entry_eq]
  generalize (lg_sl ([.ref h0, .int 0]) ++ List.replicate (3 - (lg_sl ([.ref h0, .int 0])).length) Slot.unset).toArray = ls at hl ⊢
  have hl : lv_has ls 3 [(0, .ref h0), (1, .int 0)] := hl
  refine lv_aload_n hx hb dX10_scanToken_0 rfl (lv_at hl 0 rfl) ?_
  refine lv_iload_n hx hb dX10_scanToken_1 rfl (lv_at hl 1 rfl) ?_
  have hPc := hP.sub (ws' := [(h0, .inr (6, [.ref h1, .ref h2, .ref j0, .ref h3, .int 0, .int 0, .int (-1)])), (h1, .inr (5, [.int 5, .int 1201, .ref h4, .int 0])), (h2, .inl (k0, 1201, .inr (.inl (fun _ => 0)))), (h3, .inl (k1, 4000, .inl (fun _ => 0))), (h4, .inl (k2, 6005, .inl (fun _ => 0)))]) [0, 1, 2, 3, 4] rfl
  have hDc := hD.sub (ws' := [(h0, .inr (6, [.ref h1, .ref h2, .ref j0, .ref h3, .int 0, .int 0, .int (-1)])), (h1, .inr (5, [.int 5, .int 1201, .ref h4, .int 0])), (h2, .inl (k0, 1201, .inr (.inl (fun _ => 0)))), (h3, .inl (k1, 4000, .inl (fun _ => 0))), (h4, .inl (k2, 6005, .inl (fun _ => 0)))]) [0, 1, 2, 3, 4] (by decide) rfl
  have hKc := hK.sub (tys' := [(k0, .long), (k1, .byte), (k2, .int)]) [0, 1, 2] rfl
  have hFc := va_free (wc := [(h0, .inr (6, [.ref h1, .ref h2, .ref j0, .ref h3, .int 0, .int 0, .int (-1)])), (h1, .inr (5, [.int 5, .int 1201, .ref h4, .int 0])), (h2, .inl (k0, 1201, .inr (.inl (fun _ => 0)))), (h3, .inl (k1, 4000, .inl (fun _ => 0))), (h4, .inl (k2, 6005, .inl (fun _ => 0)))]) hD hS hA [0, 1, 2, 3, 4] rfl
  refine va_calli (va_runV (As := [.int 0]) (rest := []) ⟨hx, hb, hml, hown, hw⟩ (tX10_byteAt_n1 l dC dI h0 h1 h2 h3 h4 j0 s.heap.size k0 k1 k2) ⟨callB_of 1 hw (gd mP_272) rfl rfl rfl (hw _ mP_167) (hw _ mP_273) hdX10_byteAt ⟨Nat.le_of_ble_eq_true rfl, Nat.le_of_ble_eq_true rfl⟩, (hw _ mP_274), (hw _ mP_275)⟩ ⟨fbz, va_recv hKc hPc (ci := 6) (q0 := 0) rfl rfl, prz hPc hKc hDc⟩ rfl rfl hl.1 rfl (lv_room (Nat.le_of_ble_eq_true rfl)) dX10_scanToken_2 ⟨Nat.le_of_ble_eq_true rfl, Nat.le_of_ble_eq_true rfl⟩) hS (fun q _ h => hFc q h) hFc (fun r1 u1 t H1 locs ht hvm hpo hB hz1 hk1 hS => ?_)
  obtain ⟨hP1, hK1, hD1⟩ := hB
  rw [ht] at hP1
  have hK1 := va_K.moved hvm.symm hK1
  obtain ⟨hP, hD⟩ := va_join (wr := []) (w1 := [(h0, .inr (6, [.ref h1, .ref h2, .ref j0, .ref h3, .int 0, .int 0, .int (-1)])), (h1, .inr (5, [.int 5, .int 1201, .ref h4, .int 0])), (h2, .inl (k0, 1201, .inr (.inl (fun _ => 0)))), (h3, .inl (k1, 4000, .inl (fun _ => 0))), (h4, .inl (k2, 6005, .inl (fun _ => 0)))]) hP hD [0, 1, 2, 3, 4] [] rfl rfl (by decide) (by decide) hk1 hFc hP1 hD1
  have hK := (hK.sub (tys' := []) [] rfl).app hK1
  generalize H1 = H at hP hS ⊢
  have hP : va_P (dC, dI) vC [(h0, .inr (6, [.ref h1, .ref h2, .ref j0, .ref h3, .int 0, .int 0, .int (-1)])), (h1, .inr (5, [.int 5, .int 1201, .ref h4, .int 0])), (h2, .inl (k0, 1201, .inr (.inl (fun _ => 0)))), (h3, .inl (k1, 4000, .inl (fun _ => 0))), (h4, .inl (k2, 6005, .inl (fun _ => 0)))] H := hP
  have hD : va_D A [(h0, .inr (6, [.ref h1, .ref h2, .ref j0, .ref h3, .int 0, .int 0, .int (-1)])), (h1, .inr (5, [.int 5, .int 1201, .ref h4, .int 0])), (h2, .inl (k0, 1201, .inr (.inl (fun _ => 0)))), (h3, .inl (k1, 4000, .inl (fun _ => 0))), (h4, .inl (k2, 6005, .inl (fun _ => 0)))] := hD
  have hK : va_K (dC, dI) vC [(k0, .long), (k1, .byte), (k2, .int)] s := hK
  have hpo : r1 = (-1) := hpo
  subst hpo
  refine lv_istore_n (lv' := [(2, .int (-1)), (0, .ref h0), (1, .int 0)]) hx hb dX10_scanToken_5 rfl hl (by decide) rfl (fun ls hl => ?_)
  refine lv_iload_n hx hb dX10_scanToken_6 rfl (lv_at hl 0 rfl) ?_
  have hPc := hP.sub (ws' := []) [] rfl
  have hDc := hD.sub (ws' := []) [] (by decide) rfl
  have hKc := hK.sub (tys' := []) [] rfl
  have hFc := va_free (wc := []) hD hS hA [] rfl
  refine va_calli (va_runS (As := [.int (-1)]) (rest := []) ⟨hx, hb, hml, hown, hw⟩ (tX10_isLetter_n1 l dC dI H.size) ⟨callB_of 1 hw (gd mP_276) rfl rfl rfl (hw _ mP_167) (hw _ mP_277) hdX10_isLetter ⟨Nat.le_of_ble_eq_true rfl, Nat.le_of_ble_eq_true rfl⟩, (hw _ mP_278)⟩ ⟨fbz, prz hPc hKc hDc⟩ rfl rfl hl.1 rfl (lv_room (Nat.le_of_ble_eq_true rfl)) dX10_scanToken_7 ⟨Nat.le_of_ble_eq_true rfl, Nat.le_of_ble_eq_true rfl⟩) hS (fun q _ h => hFc q h) hFc (fun r2 u2 t H1 locs ht hvm hpo hB hz1 hk1 hS => ?_)
  obtain ⟨hP1, hK1, hD1⟩ := hB
  rw [ht] at hP1
  have hK1 := va_K.moved hvm.symm hK1
  obtain ⟨hP, hD⟩ := va_join (wr := [(h0, .inr (6, [.ref h1, .ref h2, .ref j0, .ref h3, .int 0, .int 0, .int (-1)])), (h1, .inr (5, [.int 5, .int 1201, .ref h4, .int 0])), (h2, .inl (k0, 1201, .inr (.inl (fun _ => 0)))), (h3, .inl (k1, 4000, .inl (fun _ => 0))), (h4, .inl (k2, 6005, .inl (fun _ => 0)))]) (w1 := []) hP hD [] [0, 1, 2, 3, 4] rfl rfl (by decide) (by decide) hk1 hFc hP1 hD1
  have hK := (hK.sub (tys' := [(k0, .long), (k1, .byte), (k2, .int)]) [0, 1, 2] rfl).app hK1
  generalize H1 = H at hP hS ⊢
  have hP : va_P (dC, dI) vC [(h0, .inr (6, [.ref h1, .ref h2, .ref j0, .ref h3, .int 0, .int 0, .int (-1)])), (h1, .inr (5, [.int 5, .int 1201, .ref h4, .int 0])), (h2, .inl (k0, 1201, .inr (.inl (fun _ => 0)))), (h3, .inl (k1, 4000, .inl (fun _ => 0))), (h4, .inl (k2, 6005, .inl (fun _ => 0)))] H := hP
  have hD : va_D A [(h0, .inr (6, [.ref h1, .ref h2, .ref j0, .ref h3, .int 0, .int 0, .int (-1)])), (h1, .inr (5, [.int 5, .int 1201, .ref h4, .int 0])), (h2, .inl (k0, 1201, .inr (.inl (fun _ => 0)))), (h3, .inl (k1, 4000, .inl (fun _ => 0))), (h4, .inl (k2, 6005, .inl (fun _ => 0)))] := hD
  have hK : va_K (dC, dI) vC [(k0, .long), (k1, .byte), (k2, .int)] s := hK
  have hpo : r2 = 0 := hpo
  subst hpo
  refine lv_if_eq (tgt := 19) hx hb dX10_scanToken_10 (by decide) (fun _ => ?_) (fun c => absurd (by decide +kernel) c)
  refine lv_iload_n hx hb dX10_scanToken_19 rfl (lv_at hl 0 rfl) ?_
  have hPc := hP.sub (ws' := []) [] rfl
  have hDc := hD.sub (ws' := []) [] (by decide) rfl
  have hKc := hK.sub (tys' := []) [] rfl
  have hFc := va_free (wc := []) hD hS hA [] rfl
  refine va_calli (va_runS (As := [.int (-1)]) (rest := []) ⟨hx, hb, hml, hown, hw⟩ (tX10_isDigit_n1 l dC dI H.size) ⟨callB_of 1 hw (gd mP_279) rfl rfl rfl (hw _ mP_167) (hw _ mP_280) hdX10_isDigit ⟨Nat.le_of_ble_eq_true rfl, Nat.le_of_ble_eq_true rfl⟩, (hw _ mP_281)⟩ ⟨fbz, prz hPc hKc hDc⟩ rfl rfl hl.1 rfl (lv_room (Nat.le_of_ble_eq_true rfl)) dX10_scanToken_20 ⟨Nat.le_of_ble_eq_true rfl, Nat.le_of_ble_eq_true rfl⟩) hS (fun q _ h => hFc q h) hFc (fun r3 u3 t H1 locs ht hvm hpo hB hz1 hk1 hS => ?_)
  obtain ⟨hP1, hK1, hD1⟩ := hB
  rw [ht] at hP1
  have hK1 := va_K.moved hvm.symm hK1
  obtain ⟨hP, hD⟩ := va_join (wr := [(h0, .inr (6, [.ref h1, .ref h2, .ref j0, .ref h3, .int 0, .int 0, .int (-1)])), (h1, .inr (5, [.int 5, .int 1201, .ref h4, .int 0])), (h2, .inl (k0, 1201, .inr (.inl (fun _ => 0)))), (h3, .inl (k1, 4000, .inl (fun _ => 0))), (h4, .inl (k2, 6005, .inl (fun _ => 0)))]) (w1 := []) hP hD [] [0, 1, 2, 3, 4] rfl rfl (by decide) (by decide) hk1 hFc hP1 hD1
  have hK := (hK.sub (tys' := [(k0, .long), (k1, .byte), (k2, .int)]) [0, 1, 2] rfl).app hK1
  generalize H1 = H at hP hS ⊢
  have hP : va_P (dC, dI) vC [(h0, .inr (6, [.ref h1, .ref h2, .ref j0, .ref h3, .int 0, .int 0, .int (-1)])), (h1, .inr (5, [.int 5, .int 1201, .ref h4, .int 0])), (h2, .inl (k0, 1201, .inr (.inl (fun _ => 0)))), (h3, .inl (k1, 4000, .inl (fun _ => 0))), (h4, .inl (k2, 6005, .inl (fun _ => 0)))] H := hP
  have hD : va_D A [(h0, .inr (6, [.ref h1, .ref h2, .ref j0, .ref h3, .int 0, .int 0, .int (-1)])), (h1, .inr (5, [.int 5, .int 1201, .ref h4, .int 0])), (h2, .inl (k0, 1201, .inr (.inl (fun _ => 0)))), (h3, .inl (k1, 4000, .inl (fun _ => 0))), (h4, .inl (k2, 6005, .inl (fun _ => 0)))] := hD
  have hK : va_K (dC, dI) vC [(k0, .long), (k1, .byte), (k2, .int)] s := hK
  have hpo : r3 = 0 := hpo
  subst hpo
  refine lv_if_ne (tgt := 32) hx hb dX10_scanToken_23 (by decide) (fun c => absurd (by decide +kernel) c) (fun _ => ?_)
  refine lv_iload_n hx hb dX10_scanToken_26 rfl (lv_at hl 0 rfl) ?_
  refine lv_bipush (v := 45) hx hb dX10_scanToken_27 (by decide) ?_
  refine lv_icmp_ne (tgt := 38) hx hb dX10_scanToken_29 (by decide) (fun _ => ?_) (fun c => absurd c (by decide +kernel))
  refine lv_aload_n hx hb dX10_scanToken_38 rfl (lv_at hl 1 rfl) ?_
  refine lv_iload_n hx hb dX10_scanToken_39 rfl (lv_at hl 0 rfl) ?_
  refine lv_iconst (v := (-1)) hx hb dX10_scanToken_40 (by decide) ?_
  refine lv_icmp_ne (tgt := 49) hx hb dX10_scanToken_41 (by decide) (fun c => absurd (by decide +kernel) c) (fun _ => ?_)
  refine lv_bipush (v := 37) hx hb dX10_scanToken_44 (by decide) ?_
  refine lv_goto (tgt := 53) hx hb dX10_scanToken_46 (by decide) ?_
  refine lv_iload_n hx hb dX10_scanToken_53 rfl (lv_at hl 2 rfl) ?_
  refine lv_iconst (v := 0) hx hb dX10_scanToken_54 (by decide) ?_
  refine lv_lconst (v := 0) hx hb dX10_scanToken_55 (by decide) ?_
  have hPc := hP.sub (ws' := [(h0, .inr (6, [.ref h1, .ref h2, .ref j0, .ref h3, .int 0, .int 0, .int (-1)])), (h1, .inr (5, [.int 5, .int 1201, .ref h4, .int 0])), (h2, .inl (k0, 1201, .inr (.inl (fun _ => 0)))), (h3, .inl (k1, 4000, .inl (fun _ => 0))), (h4, .inl (k2, 6005, .inl (fun _ => 0)))]) [0, 1, 2, 3, 4] rfl
  have hDc := hD.sub (ws' := [(h0, .inr (6, [.ref h1, .ref h2, .ref j0, .ref h3, .int 0, .int 0, .int (-1)])), (h1, .inr (5, [.int 5, .int 1201, .ref h4, .int 0])), (h2, .inl (k0, 1201, .inr (.inl (fun _ => 0)))), (h3, .inl (k1, 4000, .inl (fun _ => 0))), (h4, .inl (k2, 6005, .inl (fun _ => 0)))]) [0, 1, 2, 3, 4] (by decide) rfl
  have hKc := hK.sub (tys' := [(k0, .long), (k1, .byte), (k2, .int)]) [0, 1, 2] rfl
  have hFc := va_free (wc := [(h0, .inr (6, [.ref h1, .ref h2, .ref j0, .ref h3, .int 0, .int 0, .int (-1)])), (h1, .inr (5, [.int 5, .int 1201, .ref h4, .int 0])), (h2, .inl (k0, 1201, .inr (.inl (fun _ => 0)))), (h3, .inl (k1, 4000, .inl (fun _ => 0))), (h4, .inl (k2, 6005, .inl (fun _ => 0)))]) hD hS hA [0, 1, 2, 3, 4] rfl
  refine va_callv (va_runV (As := [.int 37, .int 0, .int 0, .long 0]) (rest := []) ⟨hx, hb, hml, hown, hw⟩ (tX10_keep_n1 l dC dI h0 h1 h2 h3 h4 j0 H.size k0 k1 k2) ⟨callB_of 4 hw (gd mP_297) rfl rfl rfl (hw _ mP_167) (hw _ mP_298) hdX10_keep ⟨Nat.le_of_ble_eq_true rfl, Nat.le_of_ble_eq_true rfl⟩, (hw _ mP_299), (hw _ mP_300)⟩ ⟨fbz, va_recv hKc hPc (ci := 6) (q0 := 0) rfl rfl, prz hPc hKc hDc⟩ rfl rfl hl.1 rfl (lv_room (Nat.le_of_ble_eq_true rfl)) dX10_scanToken_56 ⟨Nat.le_of_ble_eq_true rfl, Nat.le_of_ble_eq_true rfl⟩) hS (fun q _ h => hFc q h) hFc (fun u4 t H1 locs ht hvm hpo hB hz1 hk1 hS => ?_)
  obtain ⟨f5, hP1, hK1, hD1⟩ := hB
  rw [ht] at hP1
  have hK1 := va_K.moved hvm.symm hK1
  obtain ⟨hP, hD⟩ := va_join (wr := []) (w1 := [(h0, .inr (6, [.ref h1, .ref h2, .ref j0, .ref h3, .int 0, .int 0, .int (-1)])), (h2, .inl (k0, 1201, .inr (.inl f5))), (h3, .inl (k1, 4000, .inl (fun _ => 0))), (h1, .inr (5, [.int 5, .int 1201, .ref h4, .int 1])), (h4, .inl (k2, 6005, .inl (upd (upd (upd (upd (upd (upd (upd (upd (fun _ => 0) (0 : Int32).toNatClampNeg (-1)) (1 : Int32).toNatClampNeg (-1)) (2 : Int32).toNatClampNeg (-1)) (3 : Int32).toNatClampNeg (-1)) (4 : Int32).toNatClampNeg (-1)) (0 : Int32).toNatClampNeg 37) (1 : Int32).toNatClampNeg 0) (2 : Int32).toNatClampNeg 0)))]) hP hD [0, 1, 2, 3, 4] [] rfl rfl (by decide) (by decide) hk1 hFc hP1 hD1
  have hK := (hK.sub (tys' := []) [] rfl).app hK1
  generalize H1 = H at hP hS ⊢
  have hP : va_P (dC, dI) vC [(h0, .inr (6, [.ref h1, .ref h2, .ref j0, .ref h3, .int 0, .int 0, .int (-1)])), (h2, .inl (k0, 1201, .inr (.inl f5))), (h3, .inl (k1, 4000, .inl (fun _ => 0))), (h1, .inr (5, [.int 5, .int 1201, .ref h4, .int 1])), (h4, .inl (k2, 6005, .inl (upd (upd (upd (upd (upd (upd (upd (upd (fun _ => 0) (0 : Int32).toNatClampNeg (-1)) (1 : Int32).toNatClampNeg (-1)) (2 : Int32).toNatClampNeg (-1)) (3 : Int32).toNatClampNeg (-1)) (4 : Int32).toNatClampNeg (-1)) (0 : Int32).toNatClampNeg 37) (1 : Int32).toNatClampNeg 0) (2 : Int32).toNatClampNeg 0)))] H := hP
  have hD : va_D A [(h0, .inr (6, [.ref h1, .ref h2, .ref j0, .ref h3, .int 0, .int 0, .int (-1)])), (h2, .inl (k0, 1201, .inr (.inl f5))), (h3, .inl (k1, 4000, .inl (fun _ => 0))), (h1, .inr (5, [.int 5, .int 1201, .ref h4, .int 1])), (h4, .inl (k2, 6005, .inl (upd (upd (upd (upd (upd (upd (upd (upd (fun _ => 0) (0 : Int32).toNatClampNeg (-1)) (1 : Int32).toNatClampNeg (-1)) (2 : Int32).toNatClampNeg (-1)) (3 : Int32).toNatClampNeg (-1)) (4 : Int32).toNatClampNeg (-1)) (0 : Int32).toNatClampNeg 37) (1 : Int32).toNatClampNeg 0) (2 : Int32).toNatClampNeg 0)))] := hD
  have hK : va_K (dC, dI) vC [(k0, .long), (k1, .byte), (k2, .int)] s := hK
  refine lv_iload_n hx hb dX10_scanToken_59 rfl (lv_at hl 2 rfl) ?_
  refine lv_iconst (v := 1) hx hb dX10_scanToken_60 (by decide) ?_
  refine lv_iadd hx hb dX10_scanToken_61 ?_
  refine lv_nmi (y := 1) (by decide +kernel) ?_
  refine W.widen (k := 0) (n := 0) (Nat.le_of_ble_eq_true rfl) (Nat.le_of_ble_eq_true rfl) ?_
  exact W.iret (v := 1) hx hb hr (fun t ht hW => ⟨⟨1, (), rfl, rfl, f5, by rw [ht]; exact hP, va_K.moved hW.alike hK, hD⟩, hS.F ht⟩) hS.2.2 dX10_scanToken_62
