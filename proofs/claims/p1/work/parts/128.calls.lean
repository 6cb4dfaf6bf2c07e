set_option maxHeartbeats 4000000 in
set_option maxRecDepth 100000 in
theorem tX12_run_n2 (l : Launch) (dC : Nat → ClassId) (dI : Nat → Nat → Nat) (h0 h1 h2 h3 h4 h5 h6 h7 h8 h9 h10 h11 h12 h13 j0 : Nat) (sz : Nat) (k0 k1 k2 k3 k4 k5 k6 k7 k8 k9 k10 k11 k12 : ClassId) (x0 : Int32) (fs : List Value) (hF : MF fs [.ref j0, .ref h1, .int 0, .int 0, .ref h2, .ref h3, .ref h4, .int 0, .int 0, .int 0, .int (-1), .int (-1), .ref h5, .ref h6, .ref h7, .ref h8, .ref h9, .ref h10, .ref h11, .int 0, .int 0, .int 0, .int 0, .ref h13, .ref h12, .int 0]) : Met l yX12_run (.code yX12_run cX12_run 5 (some .int) :: wP) ({ frames := 0, cells := 0, slots := 0, locals := 0 }) (Pz dC dI [.ref h0, .int 1, .int x0] sz [(h0, .inr (8, fs)), (h1, .inl (k0, 4000, .inl (fun _ => 0))), (h2, .inl (k1, 1203, .inl (fun _ => 0))), (h3, .inl (k2, 1203, .inl (fun _ => 0))), (h4, .inl (k3, 1203, .inl (fun _ => 0))), (h5, .inl (k4, 2, .inl (fun _ => 0))), (h6, .inl (k5, 2, .inl (fun _ => 0))), (h7, .inl (k6, 2, .inl (fun _ => 0))), (h8, .inl (k7, 2, .inl (fun _ => 0))), (h9, .inl (k8, 2, .inl (fun _ => 0))), (h10, .inl (k9, 2, .inl (fun _ => 0))), (h11, .inl (k10, 2, .inl (fun _ => 0))), (h12, .inl (k11, 50, .inl (fun _ => 0))), (h13, .inl (k12, 2, .inl (upd (fun _ => 0) (0 : Int32).toNatClampNeg (vp_nar .boolean 0))))] [(k0, .byte), (k1, .int), (k2, .int), (k3, .int), (k4, .int), (k5, .int), (k6, .int), (k7, .int), (k8, .int), (k9, .int), (k10, .int), (k11, .int), (k12, .boolean)]) (va_Qi (fun (r : Int32) (_ : Unit) => r = (-1)) (fun (_ : Unit) (_ : State) => True) (va_A [(h0, .inr (8, fs)), (h1, .inl (k0, 4000, .inl (fun _ => 0))), (h2, .inl (k1, 1203, .inl (fun _ => 0))), (h3, .inl (k2, 1203, .inl (fun _ => 0))), (h4, .inl (k3, 1203, .inl (fun _ => 0))), (h5, .inl (k4, 2, .inl (fun _ => 0))), (h6, .inl (k5, 2, .inl (fun _ => 0))), (h7, .inl (k6, 2, .inl (fun _ => 0))), (h8, .inl (k7, 2, .inl (fun _ => 0))), (h9, .inl (k8, 2, .inl (fun _ => 0))), (h10, .inl (k9, 2, .inl (fun _ => 0))), (h11, .inl (k10, 2, .inl (fun _ => 0))), (h12, .inl (k11, 50, .inl (fun _ => 0))), (h13, .inl (k12, 2, .inl (upd (fun _ => 0) (0 : Int32).toNatClampNeg (vp_nar .boolean 0))))] sz)) 0 0 (va_A [(h0, .inr (8, fs)), (h1, .inl (k0, 4000, .inl (fun _ => 0))), (h2, .inl (k1, 1203, .inl (fun _ => 0))), (h3, .inl (k2, 1203, .inl (fun _ => 0))), (h4, .inl (k3, 1203, .inl (fun _ => 0))), (h5, .inl (k4, 2, .inl (fun _ => 0))), (h6, .inl (k5, 2, .inl (fun _ => 0))), (h7, .inl (k6, 2, .inl (fun _ => 0))), (h8, .inl (k7, 2, .inl (fun _ => 0))), (h9, .inl (k8, 2, .inl (fun _ => 0))), (h10, .inl (k9, 2, .inl (fun _ => 0))), (h11, .inl (k10, 2, .inl (fun _ => 0))), (h12, .inl (k11, 50, .inl (fun _ => 0))), (h13, .inl (k12, 2, .inl (upd (fun _ => 0) (0 : Int32).toNatClampNeg (vp_nar .boolean 0))))] sz) := by
  refine Met.ofW (cc := cX12_run) (maxL := 5) (ret := (some .int)) (by decide) rfl ?_
  intro p e s m args below meth c s₁ B hml hv
  obtain ⟨rfl, hsz, hP, hK, hD0⟩ := hv
  have hx := B.exec
  have hb := B.bytes
  have hr := B.returns
  have hts := atoms_spec (ws := .code yX12_run cX12_run 5 (some .int) :: wP) B.pre
  have hw : ∀ w ∈ wP, w.before _ s = true := fun w h => hts w (List.mem_cons_of_mem _ h)
  have hown : s.vm.findClass RX12 = some m.cls := findClass_of_methodNamed B.named
  have hlocks := B.notSynchronized
  subst hsz
  have hD := hD0.self (sz := s.heap.size)
  generalize hAe : va_A [(h0, .inr (8, fs)), (h1, .inl (k0, 4000, .inl (fun _ => 0))), (h2, .inl (k1, 1203, .inl (fun _ => 0))), (h3, .inl (k2, 1203, .inl (fun _ => 0))), (h4, .inl (k3, 1203, .inl (fun _ => 0))), (h5, .inl (k4, 2, .inl (fun _ => 0))), (h6, .inl (k5, 2, .inl (fun _ => 0))), (h7, .inl (k6, 2, .inl (fun _ => 0))), (h8, .inl (k7, 2, .inl (fun _ => 0))), (h9, .inl (k8, 2, .inl (fun _ => 0))), (h10, .inl (k9, 2, .inl (fun _ => 0))), (h11, .inl (k10, 2, .inl (fun _ => 0))), (h12, .inl (k11, 50, .inl (fun _ => 0))), (h13, .inl (k12, 2, .inl (upd (fun _ => 0) (0 : Int32).toNatClampNeg (vp_nar .boolean 0))))] s.heap.size = A at hD ⊢
  have hA : ∀ q : Nat, s.heap.size ≤ q → A q := fun q h => by rw [← hAe]; exact Or.inr h
  have hS : va_S A s.heap s.heap [] := va_S.rf
  have hP : va_P (dC, dI) vC [(h0, .inr (8, fs)), (h1, .inl (k0, 4000, .inl (fun _ => 0))), (h2, .inl (k1, 1203, .inl (fun _ => 0))), (h3, .inl (k2, 1203, .inl (fun _ => 0))), (h4, .inl (k3, 1203, .inl (fun _ => 0))), (h5, .inl (k4, 2, .inl (fun _ => 0))), (h6, .inl (k5, 2, .inl (fun _ => 0))), (h7, .inl (k6, 2, .inl (fun _ => 0))), (h8, .inl (k7, 2, .inl (fun _ => 0))), (h9, .inl (k8, 2, .inl (fun _ => 0))), (h10, .inl (k9, 2, .inl (fun _ => 0))), (h11, .inl (k10, 2, .inl (fun _ => 0))), (h12, .inl (k11, 50, .inl (fun _ => 0))), (h13, .inl (k12, 2, .inl (upd (fun _ => 0) (0 : Int32).toNatClampNeg (vp_nar .boolean 0))))] s.heap := hP
  have hl := lv_entry ([.ref h0, .int 1, .int x0]) (n := 5) (Nat.le_of_ble_eq_true rfl)
  rw [lg_entry_eq]
  generalize (lg_sl ([.ref h0, .int 1, .int x0]) ++ List.replicate (5 - (lg_sl ([.ref h0, .int 1, .int x0])).length) Slot.unset).toArray = ls at hl ⊢
  have hl : lv_has ls 5 [(0, .ref h0), (1, .int 1), (2, .int x0)] := hl
  refine lv_iload_n hx hb dX12_run_0 rfl (lv_at hl 2 rfl) ?_
  refine lv_iconst (v := 1) hx hb dX12_run_1 (by decide) ?_
  refine lv_icmp_lt (tgt := 33) hx hb dX12_run_2 (by decide) (fun c1 => ?_) (fun c1 => ?_)
  · refine lv_iconst (v := (-1)) hx hb dX12_run_33 (by decide) ?_
    refine W.widen (k := 0) (n := 0) (Nat.le_of_ble_eq_true rfl) (Nat.le_of_ble_eq_true rfl) ?_
    exact W.iret (v := (-1)) hx hb hr (fun t ht hW => ⟨⟨(-1), (), rfl, rfl, trivial⟩, hS.F ht⟩) hS.2.2 dX12_run_34
  · refine lv_iload_n hx hb dX12_run_5 rfl (lv_at hl 2 rfl) ?_
    refine lv_sipush (v := 5000) hx hb dX12_run_6 (by decide) ?_
    refine lv_icmp_gt (tgt := 33) hx hb dX12_run_9 (by decide) (fun c2 => ?_) (fun c2 => ?_)
    · refine lv_iconst (v := (-1)) hx hb dX12_run_33 (by decide) ?_
      refine W.widen (k := 0) (n := 0) (Nat.le_of_ble_eq_true rfl) (Nat.le_of_ble_eq_true rfl) ?_
      exact W.iret (v := (-1)) hx hb hr (fun t ht hW => ⟨⟨(-1), (), rfl, rfl, trivial⟩, hS.F ht⟩) hS.2.2 dX12_run_34
    · refine lv_iload_n hx hb dX12_run_12 rfl (lv_at hl 1 rfl) ?_
      refine lv_if_eq (tgt := 26) hx hb dX12_run_13 (by decide) (fun c => absurd c (by decide +kernel)) (fun _ => ?_)
      refine lv_aload_n hx hb dX12_run_16 rfl (lv_at hl 0 rfl) ?_
      refine va_get (D := (dC, dI)) (ci := 8) (v := .int 0) (C := RX12) (T := TX12) (N := 105) hx hb hw inX12 hown hK hP 0 rfl rfl 79 (by decide) (hw _ mP_514) (fun _ h9 => h9) (hF.get 22 rfl rfl) dX12_run_17 ?_
      refine lv_if_eq (tgt := 33) hx hb dX12_run_20 (by decide) (fun _ => ?_) (fun c => absurd (by decide +kernel) c)
      refine lv_iconst (v := (-1)) hx hb dX12_run_33 (by decide) ?_
      refine W.widen (k := 0) (n := 0) (Nat.le_of_ble_eq_true rfl) (Nat.le_of_ble_eq_true rfl) ?_
      exact W.iret (v := (-1)) hx hb hr (fun t ht hW => ⟨⟨(-1), (), rfl, rfl, trivial⟩, hS.F ht⟩) hS.2.2 dX12_run_34
set_option maxHeartbeats 4000000 in
set_option maxRecDepth 100000 in
theorem tX11_run_n2 (l : Launch) (dC : Nat → ClassId) (dI : Nat → Nat → Nat) (h0 h1 h2 : Nat) (sz : Nat) (k0 k1 : ClassId) (x0 : Int32) : Met l yX11_run (.code yX11_run cX11_run 3 (some .int) :: wP) ({ frames := 0, cells := 0, slots := 0, locals := 0 }) (Pz dC dI [.ref h0, .int 1, .int x0] sz [(h0, .inr (7, [.ref h1, .int 0, .ref h2, .int 0, .int (-1), .null, .null, .null, .null, .null, .null, .null, .null, .null, .null])), (h1, .inl (k0, 4000, .inl (fun _ => 0))), (h2, .inl (k1, 50, .inl (fun _ => 0)))] [(k0, .byte), (k1, .int)]) (va_Qi (fun (r : Int32) (_ : Unit) => r = (-1)) (fun (_ : Unit) (_ : State) => True) (va_A [(h0, .inr (7, [.ref h1, .int 0, .ref h2, .int 0, .int (-1), .null, .null, .null, .null, .null, .null, .null, .null, .null, .null])), (h1, .inl (k0, 4000, .inl (fun _ => 0))), (h2, .inl (k1, 50, .inl (fun _ => 0)))] sz)) 0 0 (va_A [(h0, .inr (7, [.ref h1, .int 0, .ref h2, .int 0, .int (-1), .null, .null, .null, .null, .null, .null, .null, .null, .null, .null])), (h1, .inl (k0, 4000, .inl (fun _ => 0))), (h2, .inl (k1, 50, .inl (fun _ => 0)))] sz) := by
  refine Met.ofW (cc := cX11_run) (maxL := 3) (ret := (some .int)) (by decide) rfl ?_
  intro p e s m args below meth c s₁ B hml hv
  obtain ⟨rfl, hsz, hP, hK, hD0⟩ := hv
  have hx := B.exec
  have hb := B.bytes
  have hr := B.returns
  have hts := atoms_spec (ws := .code yX11_run cX11_run 3 (some .int) :: wP) B.pre
  have hw : ∀ w ∈ wP, w.before _ s = true := fun w h => hts w (List.mem_cons_of_mem _ h)
  have hown : s.vm.findClass RX11 = some m.cls := findClass_of_methodNamed B.named
  have hlocks := B.notSynchronized
  subst hsz
  have hD := hD0.self (sz := s.heap.size)
  generalize hAe : va_A [(h0, .inr (7, [.ref h1, .int 0, .ref h2, .int 0, .int (-1), .null, .null, .null, .null, .null, .null, .null, .null, .null, .null])), (h1, .inl (k0, 4000, .inl (fun _ => 0))), (h2, .inl (k1, 50, .inl (fun _ => 0)))] s.heap.size = A at hD ⊢
  have hA : ∀ q : Nat, s.heap.size ≤ q → A q := fun q h => by rw [← hAe]; exact Or.inr h
  have hS : va_S A s.heap s.heap [] := va_S.rf
  have hP : va_P (dC, dI) vC [(h0, .inr (7, [.ref h1, .int 0, .ref h2, .int 0, .int (-1), .null, .null, .null, .null, .null, .null, .null, .null, .null, .null])), (h1, .inl (k0, 4000, .inl (fun _ => 0))), (h2, .inl (k1, 50, .inl (fun _ => 0)))] s.heap := hP
  have hl := lv_entry ([.ref h0, .int 1, .int x0]) (n := 3) (Nat.le_of_ble_eq_true rfl)
  rw [lg_entry_eq]
  generalize (lg_sl ([.ref h0, .int 1, .int x0]) ++ List.replicate (3 - (lg_sl ([.ref h0, .int 1, .int x0])).length) Slot.unset).toArray = ls at hl ⊢
  have hl : lv_has ls 3 [(0, .ref h0), (1, .int 1), (2, .int x0)] := hl
  refine lv_aload_n hx hb dX11_run_0 rfl (lv_at hl 0 rfl) ?_
  refine va_get (D := (dC, dI)) (ci := 7) (v := .null) (C := RX11) (T := TX11) (N := 15) hx hb hw inX11 hown hK hP 0 rfl rfl 8 (by decide) (hw _ mP_415) (fun _ h9 => h9) rfl dX11_run_1 ?_
  refine lv_ifnullN (tgt := 19) hx hb dX11_run_4 (by decide) ?_
  refine lv_iconst (v := (-1)) hx hb dX11_run_19 (by decide) ?_
  refine W.widen (k := 0) (n := 0) (Nat.le_of_ble_eq_true rfl) (Nat.le_of_ble_eq_true rfl) ?_
  exact W.iret (v := (-1)) hx hb hr (fun t ht hW => ⟨⟨(-1), (), rfl, rfl, trivial⟩, hS.F ht⟩) hS.2.2 dX11_run_20
set_option maxHeartbeats 4000000 in
set_option maxRecDepth 100000 in
theorem tX11_told_n1 (l : Launch) (dC : Nat → ClassId) (dI : Nat → Nat → Nat) (h0 h1 h2 : Nat) (sz : Nat) (k0 k1 : ClassId) (x0 : Int32) : Met l yX11_told (.code yX11_told cX11_told 4 (some .int) :: wP) ({ frames := 0, cells := 0, slots := 0, locals := 0 }) (Pz dC dI [.ref h0, .int 0, .int x0] sz [(h0, .inr (7, [.ref h1, .int 0, .ref h2, .int 0, .int (-1), .null, .null, .null, .null, .null, .null, .null, .null, .null, .null])), (h1, .inl (k0, 4000, .inl (fun _ => 0))), (h2, .inl (k1, 50, .inl (fun _ => 0)))] [(k0, .byte), (k1, .int)]) (va_Qi (fun (r : Int32) (_ : Unit) => r = (-1)) (fun (_ : Unit) (_ : State) => True) (va_A [(h0, .inr (7, [.ref h1, .int 0, .ref h2, .int 0, .int (-1), .null, .null, .null, .null, .null, .null, .null, .null, .null, .null])), (h1, .inl (k0, 4000, .inl (fun _ => 0))), (h2, .inl (k1, 50, .inl (fun _ => 0)))] sz)) 0 0 (va_A [(h0, .inr (7, [.ref h1, .int 0, .ref h2, .int 0, .int (-1), .null, .null, .null, .null, .null, .null, .null, .null, .null, .null])), (h1, .inl (k0, 4000, .inl (fun _ => 0))), (h2, .inl (k1, 50, .inl (fun _ => 0)))] sz) := by
  refine Met.ofW (cc := cX11_told) (maxL := 4) (ret := (some .int)) (by decide) rfl ?_
  intro p e s m args below meth c s₁ B hml hv
  obtain ⟨rfl, hsz, hP, hK, hD0⟩ := hv
  have hx := B.exec
  have hb := B.bytes
  have hr := B.returns
  have hts := atoms_spec (ws := .code yX11_told cX11_told 4 (some .int) :: wP) B.pre
  have hw : ∀ w ∈ wP, w.before _ s = true := fun w h => hts w (List.mem_cons_of_mem _ h)
  have hown : s.vm.findClass RX11 = some m.cls := findClass_of_methodNamed B.named
  have hlocks := B.notSynchronized
  subst hsz
  have hD := hD0.self (sz := s.heap.size)
  generalize hAe : va_A [(h0, .inr (7, [.ref h1, .int 0, .ref h2, .int 0, .int (-1), .null, .null, .null, .null, .null, .null, .null, .null, .null, .null])), (h1, .inl (k0, 4000, .inl (fun _ => 0))), (h2, .inl (k1, 50, .inl (fun _ => 0)))] s.heap.size = A at hD ⊢
  have hA : ∀ q : Nat, s.heap.size ≤ q → A q := fun q h => by rw [← hAe]; exact Or.inr h
  have hS : va_S A s.heap s.heap [] := va_S.rf
  have hP : va_P (dC, dI) vC [(h0, .inr (7, [.ref h1, .int 0, .ref h2, .int 0, .int (-1), .null, .null, .null, .null, .null, .null, .null, .null, .null, .null])), (h1, .inl (k0, 4000, .inl (fun _ => 0))), (h2, .inl (k1, 50, .inl (fun _ => 0)))] s.heap := hP
  have hl := lv_entry ([.ref h0, .int 0, .int x0]) (n := 4) (Nat.le_of_ble_eq_true rfl)
  rw [lg_entry_eq]
  generalize (lg_sl ([.ref h0, .int 0, .int x0]) ++ List.replicate (4 - (lg_sl ([.ref h0, .int 0, .int x0])).length) Slot.unset).toArray = ls at hl ⊢
  have hl : lv_has ls 4 [(0, .ref h0), (1, .int 0), (2, .int x0)] := hl
  refine lv_iload_n hx hb dX11_told_0 rfl (lv_at hl 1 rfl) ?_
  refine lv_if_eq (tgt := 11) hx hb dX11_told_1 (by decide) (fun _ => ?_) (fun c => absurd (by decide +kernel) c)
  refine lv_aload_n hx hb dX11_told_11 rfl (lv_at hl 0 rfl) ?_
  refine va_get (D := (dC, dI)) (ci := 7) (v := .null) (C := RX11) (T := TX11) (N := 15) hx hb hw inX11 hown hK hP 0 rfl rfl 13 (by decide) (hw _ mP_545) (fun _ h9 => h9) rfl dX11_told_12 ?_
  refine lv_astore_nN (lv' := [(3, .null), (0, .ref h0), (1, .int 0), (2, .int x0)]) hx hb dX11_told_15 rfl hl (by decide) rfl (fun ls hl => ?_)
  refine lv_aload_nN hx hb dX11_told_16 rfl (lv_at hl 0 rfl) ?_
  refine lv_ifnonnullN hx hb dX11_told_17 ?_
  refine lv_iconst (v := (-1)) hx hb dX11_told_20 (by decide) ?_
  refine lv_goto (tgt := 29) hx hb dX11_told_21 (by decide) ?_
  refine W.widen (k := 0) (n := 0) (Nat.le_of_ble_eq_true rfl) (Nat.le_of_ble_eq_true rfl) ?_
  exact W.iret (v := (-1)) hx hb hr (fun t ht hW => ⟨⟨(-1), (), rfl, rfl, trivial⟩, hS.F ht⟩) hS.2.2 dX11_told_29
set_option maxHeartbeats 4000000 in
set_option maxRecDepth 100000 in
theorem tX12_told_n1 (l : Launch) (dC : Nat → ClassId) (dI : Nat → Nat → Nat) (h0 h1 h2 h3 h4 h5 h6 h7 h8 h9 h10 h11 h12 h13 j0 : Nat) (sz : Nat) (k0 k1 k2 k3 k4 k5 k6 k7 k8 k9 k10 k11 k12 : ClassId) (x0 : Int32) (fs : List Value) (hF : MF fs [.ref j0, .ref h1, .int 0, .int 0, .ref h2, .ref h3, .ref h4, .int 0, .int 0, .int 0, .int (-1), .int (-1), .ref h5, .ref h6, .ref h7, .ref h8, .ref h9, .ref h10, .ref h11, .int 0, .int 0, .int 0, .int 0, .ref h13, .ref h12, .int 0]) : Met l yX12_told (.code yX12_told cX12_told 4 (some .int) :: wP) ({ frames := 0, cells := 0, slots := 0, locals := 0 }) (Pz dC dI [.ref h0, .int 0, .int x0] sz [(h0, .inr (8, fs)), (h1, .inl (k0, 4000, .inl (fun _ => 0))), (h2, .inl (k1, 1203, .inl (fun _ => 0))), (h3, .inl (k2, 1203, .inl (fun _ => 0))), (h4, .inl (k3, 1203, .inl (fun _ => 0))), (h5, .inl (k4, 2, .inl (fun _ => 0))), (h6, .inl (k5, 2, .inl (fun _ => 0))), (h7, .inl (k6, 2, .inl (fun _ => 0))), (h8, .inl (k7, 2, .inl (fun _ => 0))), (h9, .inl (k8, 2, .inl (fun _ => 0))), (h10, .inl (k9, 2, .inl (fun _ => 0))), (h11, .inl (k10, 2, .inl (fun _ => 0))), (h12, .inl (k11, 50, .inl (fun _ => 0))), (h13, .inl (k12, 2, .inl (upd (fun _ => 0) (0 : Int32).toNatClampNeg (vp_nar .boolean 0))))] [(k0, .byte), (k1, .int), (k2, .int), (k3, .int), (k4, .int), (k5, .int), (k6, .int), (k7, .int), (k8, .int), (k9, .int), (k10, .int), (k11, .int), (k12, .boolean)]) (va_Qi (fun (r : Int32) (_ : Unit) => r = (-1)) (fun (_ : Unit) (_ : State) => True) (va_A [(h0, .inr (8, fs)), (h1, .inl (k0, 4000, .inl (fun _ => 0))), (h2, .inl (k1, 1203, .inl (fun _ => 0))), (h3, .inl (k2, 1203, .inl (fun _ => 0))), (h4, .inl (k3, 1203, .inl (fun _ => 0))), (h5, .inl (k4, 2, .inl (fun _ => 0))), (h6, .inl (k5, 2, .inl (fun _ => 0))), (h7, .inl (k6, 2, .inl (fun _ => 0))), (h8, .inl (k7, 2, .inl (fun _ => 0))), (h9, .inl (k8, 2, .inl (fun _ => 0))), (h10, .inl (k9, 2, .inl (fun _ => 0))), (h11, .inl (k10, 2, .inl (fun _ => 0))), (h12, .inl (k11, 50, .inl (fun _ => 0))), (h13, .inl (k12, 2, .inl (upd (fun _ => 0) (0 : Int32).toNatClampNeg (vp_nar .boolean 0))))] sz)) 0 0 (va_A [(h0, .inr (8, fs)), (h1, .inl (k0, 4000, .inl (fun _ => 0))), (h2, .inl (k1, 1203, .inl (fun _ => 0))), (h3, .inl (k2, 1203, .inl (fun _ => 0))), (h4, .inl (k3, 1203, .inl (fun _ => 0))), (h5, .inl (k4, 2, .inl (fun _ => 0))), (h6, .inl (k5, 2, .inl (fun _ => 0))), (h7, .inl (k6, 2, .inl (fun _ => 0))), (h8, .inl (k7, 2, .inl (fun _ => 0))), (h9, .inl (k8, 2, .inl (fun _ => 0))), (h10, .inl (k9, 2, .inl (fun _ => 0))), (h11, .inl (k10, 2, .inl (fun _ => 0))), (h12, .inl (k11, 50, .inl (fun _ => 0))), (h13, .inl (k12, 2, .inl (upd (fun _ => 0) (0 : Int32).toNatClampNeg (vp_nar .boolean 0))))] sz) := by
  refine Met.ofW (cc := cX12_told) (maxL := 4) (ret := (some .int)) (by decide) rfl ?_
  intro p e s m args below meth c s₁ B hml hv
  obtain ⟨rfl, hsz, hP, hK, hD0⟩ := hv
  have hx := B.exec
  have hb := B.bytes
  have hr := B.returns
  have hts := atoms_spec (ws := .code yX12_told cX12_told 4 (some .int) :: wP) B.pre
  have hw : ∀ w ∈ wP, w.before _ s = true := fun w h => hts w (List.mem_cons_of_mem _ h)
  have hown : s.vm.findClass RX12 = some m.cls := findClass_of_methodNamed B.named
  have hlocks := B.notSynchronized
  subst hsz
  have hD := hD0.self (sz := s.heap.size)
  generalize hAe : va_A [(h0, .inr (8, fs)), (h1, .inl (k0, 4000, .inl (fun _ => 0))), (h2, .inl (k1, 1203, .inl (fun _ => 0))), (h3, .inl (k2, 1203, .inl (fun _ => 0))), (h4, .inl (k3, 1203, .inl (fun _ => 0))), (h5, .inl (k4, 2, .inl (fun _ => 0))), (h6, .inl (k5, 2, .inl (fun _ => 0))), (h7, .inl (k6, 2, .inl (fun _ => 0))), (h8, .inl (k7, 2, .inl (fun _ => 0))), (h9, .inl (k8, 2, .inl (fun _ => 0))), (h10, .inl (k9, 2, .inl (fun _ => 0))), (h11, .inl (k10, 2, .inl (fun _ => 0))), (h12, .inl (k11, 50, .inl (fun _ => 0))), (h13, .inl (k12, 2, .inl (upd (fun _ => 0) (0 : Int32).toNatClampNeg (vp_nar .boolean 0))))] s.heap.size = A at hD ⊢
  have hA : ∀ q : Nat, s.heap.size ≤ q → A q := fun q h => by rw [← hAe]; exact Or.inr h
  have hS : va_S A s.heap s.heap [] := va_S.rf
  have hP : va_P (dC, dI) vC [(h0, .inr (8, fs)), (h1, .inl (k0, 4000, .inl (fun _ => 0))), (h2, .inl (k1, 1203, .inl (fun _ => 0))), (h3, .inl (k2, 1203, .inl (fun _ => 0))), (h4, .inl (k3, 1203, .inl (fun _ => 0))), (h5, .inl (k4, 2, .inl (fun _ => 0))), (h6, .inl (k5, 2, .inl (fun _ => 0))), (h7, .inl (k6, 2, .inl (fun _ => 0))), (h8, .inl (k7, 2, .inl (fun _ => 0))), (h9, .inl (k8, 2, .inl (fun _ => 0))), (h10, .inl (k9, 2, .inl (fun _ => 0))), (h11, .inl (k10, 2, .inl (fun _ => 0))), (h12, .inl (k11, 50, .inl (fun _ => 0))), (h13, .inl (k12, 2, .inl (upd (fun _ => 0) (0 : Int32).toNatClampNeg (vp_nar .boolean 0))))] s.heap := hP
  have hl := lv_entry ([.ref h0, .int 0, .int x0]) (n := 4) (Nat.le_of_ble_eq_true rfl)
  rw [lg_entry_eq]
  generalize (lg_sl ([.ref h0, .int 0, .int x0]) ++ List.replicate (4 - (lg_sl ([.ref h0, .int 0, .int x0])).length) Slot.unset).toArray = ls at hl ⊢
  have hl : lv_has ls 4 [(0, .ref h0), (1, .int 0), (2, .int x0)] := hl
  refine lv_iload_n hx hb dX12_told_0 rfl (lv_at hl 1 rfl) ?_
  refine lv_if_eq (tgt := 8) hx hb dX12_told_1 (by decide) (fun _ => ?_) (fun c => absurd (by decide +kernel) c)
  refine lv_iconst (v := 0) hx hb dX12_told_8 (by decide) ?_
  refine lv_istore_n (lv' := [(3, .int 0), (0, .ref h0), (1, .int 0), (2, .int x0)]) hx hb dX12_told_9 rfl hl (by decide) rfl (fun ls hl => ?_)
  refine lv_aload_n hx hb dX12_told_10 rfl (lv_at hl 1 rfl) ?_
  refine va_get (D := (dC, dI)) (ci := 8) (v := .ref h13) (C := RX12) (T := TX12) (N := 105) hx hb hw inX12 hown hK hP 0 rfl rfl 94 (by decide) (hw _ mP_121) (fun _ h9 => h9) (hF.get 23 rfl rfl) dX12_told_11 ?_
  refine lv_iload_n hx hb dX12_told_14 rfl (lv_at hl 0 rfl) ?_
  refine va_zald hx hb hK hP 13 12 rfl rfl (vin (by decide +kernel)) dX12_told_15 ?_
  refine lv_nmi (y := 0) (by decide +kernel) ?_
  refine lv_if_ne (tgt := 21) hx hb dX12_told_16 (by decide) (fun c => absurd (by decide +kernel) c) (fun _ => ?_)
  refine lv_iconst (v := (-1)) hx hb dX12_told_19 (by decide) ?_
  refine W.widen (k := 0) (n := 0) (Nat.le_of_ble_eq_true rfl) (Nat.le_of_ble_eq_true rfl) ?_
  exact W.iret (v := (-1)) hx hb hr (fun t ht hW => ⟨⟨(-1), (), rfl, rfl, trivial⟩, hS.F ht⟩) hS.2.2 dX12_told_20
set_option maxHeartbeats 4000000 in
set_option maxRecDepth 100000 in
theorem tX12_told_n2 (l : Launch) (dC : Nat → ClassId) (dI : Nat → Nat → Nat) (h0 h1 h2 h3 h4 h5 h6 h7 h8 h9 h10 h11 h12 h13 j0 : Nat) (sz : Nat) (k0 k1 k2 k3 k4 k5 k6 k7 k8 k9 k10 k11 k12 : ClassId) (x0 : Int32) (fs : List Value) (hF : MF fs [.ref j0, .ref h1, .int 0, .int 0, .ref h2, .ref h3, .ref h4, .int 0, .int 0, .int 0, .int (-1), .int (-1), .ref h5, .ref h6, .ref h7, .ref h8, .ref h9, .ref h10, .ref h11, .int 0, .int 0, .int 0, .int 0, .ref h13, .ref h12, .int 0]) : Met l yX12_told (.code yX12_told cX12_told 4 (some .int) :: wP) ({ frames := 0, cells := 0, slots := 0, locals := 0 }) (Pz dC dI [.ref h0, .int 1, .int x0] sz [(h0, .inr (8, fs)), (h1, .inl (k0, 4000, .inl (fun _ => 0))), (h2, .inl (k1, 1203, .inl (fun _ => 0))), (h3, .inl (k2, 1203, .inl (fun _ => 0))), (h4, .inl (k3, 1203, .inl (fun _ => 0))), (h5, .inl (k4, 2, .inl (fun _ => 0))), (h6, .inl (k5, 2, .inl (fun _ => 0))), (h7, .inl (k6, 2, .inl (fun _ => 0))), (h8, .inl (k7, 2, .inl (fun _ => 0))), (h9, .inl (k8, 2, .inl (fun _ => 0))), (h10, .inl (k9, 2, .inl (fun _ => 0))), (h11, .inl (k10, 2, .inl (fun _ => 0))), (h12, .inl (k11, 50, .inl (fun _ => 0))), (h13, .inl (k12, 2, .inl (upd (fun _ => 0) (0 : Int32).toNatClampNeg (vp_nar .boolean 0))))] [(k0, .byte), (k1, .int), (k2, .int), (k3, .int), (k4, .int), (k5, .int), (k6, .int), (k7, .int), (k8, .int), (k9, .int), (k10, .int), (k11, .int), (k12, .boolean)]) (va_Qi (fun (r : Int32) (_ : Unit) => r = (-1)) (fun (_ : Unit) (_ : State) => True) (va_A [(h0, .inr (8, fs)), (h1, .inl (k0, 4000, .inl (fun _ => 0))), (h2, .inl (k1, 1203, .inl (fun _ => 0))), (h3, .inl (k2, 1203, .inl (fun _ => 0))), (h4, .inl (k3, 1203, .inl (fun _ => 0))), (h5, .inl (k4, 2, .inl (fun _ => 0))), (h6, .inl (k5, 2, .inl (fun _ => 0))), (h7, .inl (k6, 2, .inl (fun _ => 0))), (h8, .inl (k7, 2, .inl (fun _ => 0))), (h9, .inl (k8, 2, .inl (fun _ => 0))), (h10, .inl (k9, 2, .inl (fun _ => 0))), (h11, .inl (k10, 2, .inl (fun _ => 0))), (h12, .inl (k11, 50, .inl (fun _ => 0))), (h13, .inl (k12, 2, .inl (upd (fun _ => 0) (0 : Int32).toNatClampNeg (vp_nar .boolean 0))))] sz)) 0 0 (va_A [(h0, .inr (8, fs)), (h1, .inl (k0, 4000, .inl (fun _ => 0))), (h2, .inl (k1, 1203, .inl (fun _ => 0))), (h3, .inl (k2, 1203, .inl (fun _ => 0))), (h4, .inl (k3, 1203, .inl (fun _ => 0))), (h5, .inl (k4, 2, .inl (fun _ => 0))), (h6, .inl (k5, 2, .inl (fun _ => 0))), (h7, .inl (k6, 2, .inl (fun _ => 0))), (h8, .inl (k7, 2, .inl (fun _ => 0))), (h9, .inl (k8, 2, .inl (fun _ => 0))), (h10, .inl (k9, 2, .inl (fun _ => 0))), (h11, .inl (k10, 2, .inl (fun _ => 0))), (h12, .inl (k11, 50, .inl (fun _ => 0))), (h13, .inl (k12, 2, .inl (upd (fun _ => 0) (0 : Int32).toNatClampNeg (vp_nar .boolean 0))))] sz) := by
  refine Met.ofW (cc := cX12_told) (maxL := 4) (ret := (some .int)) (by decide) rfl ?_
  intro p e s m args below meth c s₁ B hml hv
  obtain ⟨rfl, hsz, hP, hK, hD0⟩ := hv
  have hx := B.exec
  have hb := B.bytes
  have hr := B.returns
  have hts := atoms_spec (ws := .code yX12_told cX12_told 4 (some .int) :: wP) B.pre
  have hw : ∀ w ∈ wP, w.before _ s = true := fun w h => hts w (List.mem_cons_of_mem _ h)
  have hown : s.vm.findClass RX12 = some m.cls := findClass_of_methodNamed B.named
  have hlocks := B.notSynchronized
  subst hsz
  have hD := hD0.self (sz := s.heap.size)
  generalize hAe : va_A [(h0, .inr (8, fs)), (h1, .inl (k0, 4000, .inl (fun _ => 0))), (h2, .inl (k1, 1203, .inl (fun _ => 0))), (h3, .inl (k2, 1203, .inl (fun _ => 0))), (h4, .inl (k3, 1203, .inl (fun _ => 0))), (h5, .inl (k4, 2, .inl (fun _ => 0))), (h6, .inl (k5, 2, .inl (fun _ => 0))), (h7, .inl (k6, 2, .inl (fun _ => 0))), (h8, .inl (k7, 2, .inl (fun _ => 0))), (h9, .inl (k8, 2, .inl (fun _ => 0))), (h10, .inl (k9, 2, .inl (fun _ => 0))), (h11, .inl (k10, 2, .inl (fun _ => 0))), (h12, .inl (k11, 50, .inl (fun _ => 0))), (h13, .inl (k12, 2, .inl (upd (fun _ => 0) (0 : Int32).toNatClampNeg (vp_nar .boolean 0))))] s.heap.size = A at hD ⊢
  have hA : ∀ q : Nat, s.heap.size ≤ q → A q := fun q h => by rw [← hAe]; exact Or.inr h
  have hS : va_S A s.heap s.heap [] := va_S.rf
  have hP : va_P (dC, dI) vC [(h0, .inr (8, fs)), (h1, .inl (k0, 4000, .inl (fun _ => 0))), (h2, .inl (k1, 1203, .inl (fun _ => 0))), (h3, .inl (k2, 1203, .inl (fun _ => 0))), (h4, .inl (k3, 1203, .inl (fun _ => 0))), (h5, .inl (k4, 2, .inl (fun _ => 0))), (h6, .inl (k5, 2, .inl (fun _ => 0))), (h7, .inl (k6, 2, .inl (fun _ => 0))), (h8, .inl (k7, 2, .inl (fun _ => 0))), (h9, .inl (k8, 2, .inl (fun _ => 0))), (h10, .inl (k9, 2, .inl (fun _ => 0))), (h11, .inl (k10, 2, .inl (fun _ => 0))), (h12, .inl (k11, 50, .inl (fun _ => 0))), (h13, .inl (k12, 2, .inl (upd (fun _ => 0) (0 : Int32).toNatClampNeg (vp_nar .boolean 0))))] s.heap := hP
  have hl := lv_entry ([.ref h0, .int 1, .int x0]) (n := 4) (Nat.le_of_ble_eq_true rfl)
  rw [lg_entry_eq]
  generalize (lg_sl ([.ref h0, .int 1, .int x0]) ++ List.replicate (4 - (lg_sl ([.ref h0, .int 1, .int x0])).length) Slot.unset).toArray = ls at hl ⊢
  have hl : lv_has ls 4 [(0, .ref h0), (1, .int 1), (2, .int x0)] := hl
  refine lv_iload_n hx hb dX12_told_0 rfl (lv_at hl 1 rfl) ?_
  refine lv_if_eq (tgt := 8) hx hb dX12_told_1 (by decide) (fun c => absurd c (by decide +kernel)) (fun _ => ?_)
  refine lv_iconst (v := 1) hx hb dX12_told_4 (by decide) ?_
  refine lv_goto (tgt := 9) hx hb dX12_told_5 (by decide) ?_
  refine lv_istore_n (lv' := [(3, .int 1), (0, .ref h0), (1, .int 1), (2, .int x0)]) hx hb dX12_told_9 rfl hl (by decide) rfl (fun ls hl => ?_)
  refine lv_aload_n hx hb dX12_told_10 rfl (lv_at hl 1 rfl) ?_
  refine va_get (D := (dC, dI)) (ci := 8) (v := .ref h13) (C := RX12) (T := TX12) (N := 105) hx hb hw inX12 hown hK hP 0 rfl rfl 94 (by decide) (hw _ mP_121) (fun _ h9 => h9) (hF.get 23 rfl rfl) dX12_told_11 ?_
  refine lv_iload_n hx hb dX12_told_14 rfl (lv_at hl 0 rfl) ?_
  refine va_zald hx hb hK hP 13 12 rfl rfl (vin (by decide +kernel)) dX12_told_15 ?_
  refine lv_nmi (y := 0) (by decide +kernel) ?_
  refine lv_if_ne (tgt := 21) hx hb dX12_told_16 (by decide) (fun c => absurd (by decide +kernel) c) (fun _ => ?_)
  refine lv_iconst (v := (-1)) hx hb dX12_told_19 (by decide) ?_
  refine W.widen (k := 0) (n := 0) (Nat.le_of_ble_eq_true rfl) (Nat.le_of_ble_eq_true rfl) ?_
  exact W.iret (v := (-1)) hx hb hr (fun t ht hW => ⟨⟨(-1), (), rfl, rfl, trivial⟩, hS.F ht⟩) hS.2.2 dX12_told_20
set_option maxHeartbeats 4000000 in
set_option maxRecDepth 100000 in
theorem tX11_told_n2 (l : Launch) (dC : Nat → ClassId) (dI : Nat → Nat → Nat) (h0 h1 h2 : Nat) (sz : Nat) (k0 k1 : ClassId) (x0 : Int32) : Met l yX11_told (.code yX11_told cX11_told 4 (some .int) :: wP) ({ frames := 0, cells := 0, slots := 0, locals := 0 }) (Pz dC dI [.ref h0, .int 1, .int x0] sz [(h0, .inr (7, [.ref h1, .int 0, .ref h2, .int 0, .int (-1), .null, .null, .null, .null, .null, .null, .null, .null, .null, .null])), (h1, .inl (k0, 4000, .inl (fun _ => 0))), (h2, .inl (k1, 50, .inl (fun _ => 0)))] [(k0, .byte), (k1, .int)]) (va_Qi (fun (r : Int32) (_ : Unit) => r = (-1)) (fun (_ : Unit) (_ : State) => True) (va_A [(h0, .inr (7, [.ref h1, .int 0, .ref h2, .int 0, .int (-1), .null, .null, .null, .null, .null, .null, .null, .null, .null, .null])), (h1, .inl (k0, 4000, .inl (fun _ => 0))), (h2, .inl (k1, 50, .inl (fun _ => 0)))] sz)) 0 0 (va_A [(h0, .inr (7, [.ref h1, .int 0, .ref h2, .int 0, .int (-1), .null, .null, .null, .null, .null, .null, .null, .null, .null, .null])), (h1, .inl (k0, 4000, .inl (fun _ => 0))), (h2, .inl (k1, 50, .inl (fun _ => 0)))] sz) := by
  refine Met.ofW (cc := cX11_told) (maxL := 4) (ret := (some .int)) (by decide) rfl ?_
  intro p e s m args below meth c s₁ B hml hv
  obtain ⟨rfl, hsz, hP, hK, hD0⟩ := hv
  have hx := B.exec
  have hb := B.bytes
  have hr := B.returns
  have hts := atoms_spec (ws := .code yX11_told cX11_told 4 (some .int) :: wP) B.pre
  have hw : ∀ w ∈ wP, w.before _ s = true := fun w h => hts w (List.mem_cons_of_mem _ h)
  have hown : s.vm.findClass RX11 = some m.cls := findClass_of_methodNamed B.named
  have hlocks := B.notSynchronized
  subst hsz
  have hD := hD0.self (sz := s.heap.size)
  generalize hAe : va_A [(h0, .inr (7, [.ref h1, .int 0, .ref h2, .int 0, .int (-1), .null, .null, .null, .null, .null, .null, .null, .null, .null, .null])), (h1, .inl (k0, 4000, .inl (fun _ => 0))), (h2, .inl (k1, 50, .inl (fun _ => 0)))] s.heap.size = A at hD ⊢
  have hA : ∀ q : Nat, s.heap.size ≤ q → A q := fun q h => by rw [← hAe]; exact Or.inr h
  have hS : va_S A s.heap s.heap [] := va_S.rf
  have hP : va_P (dC, dI) vC [(h0, .inr (7, [.ref h1, .int 0, .ref h2, .int 0, .int (-1), .null, .null, .null, .null, .null, .null, .null, .null, .null, .null])), (h1, .inl (k0, 4000, .inl (fun _ => 0))), (h2, .inl (k1, 50, .inl (fun _ => 0)))] s.heap := hP
  have hl := lv_entry ([.ref h0, .int 1, .int x0]) (n := 4) (Nat.le_of_ble_eq_true rfl)
  rw [lg_entry_eq]
  generalize (lg_sl ([.ref h0, .int 1, .int x0]) ++ List.replicate (4 - (lg_sl ([.ref h0, .int 1, .int x0])).length) Slot.unset).toArray = ls at hl ⊢
  have hl : lv_has ls 4 [(0, .ref h0), (1, .int 1), (2, .int x0)] := hl
  refine lv_iload_n hx hb dX11_told_0 rfl (lv_at hl 1 rfl) ?_
  refine lv_if_eq (tgt := 11) hx hb dX11_told_1 (by decide) (fun c => absurd c (by decide +kernel)) (fun _ => ?_)
  refine lv_aload_n hx hb dX11_told_4 rfl (lv_at hl 0 rfl) ?_
  refine va_get (D := (dC, dI)) (ci := 7) (v := .null) (C := RX11) (T := TX11) (N := 15) hx hb hw inX11 hown hK hP 0 rfl rfl 14 (by decide) (hw _ mP_554) (fun _ h9 => h9) rfl dX11_told_5 ?_
  refine lv_goto (tgt := 15) hx hb dX11_told_8 (by decide) ?_
  refine lv_astore_nN (lv' := [(3, .null), (0, .ref h0), (1, .int 1), (2, .int x0)]) hx hb dX11_told_15 rfl hl (by decide) rfl (fun ls hl => ?_)
  refine lv_aload_nN hx hb dX11_told_16 rfl (lv_at hl 0 rfl) ?_
  refine lv_ifnonnullN hx hb dX11_told_17 ?_
  refine lv_iconst (v := (-1)) hx hb dX11_told_20 (by decide) ?_
  refine lv_goto (tgt := 29) hx hb dX11_told_21 (by decide) ?_
  refine W.widen (k := 0) (n := 0) (Nat.le_of_ble_eq_true rfl) (Nat.le_of_ble_eq_true rfl) ?_
  exact W.iret (v := (-1)) hx hb hr (fun t ht hW => ⟨⟨(-1), (), rfl, rfl, trivial⟩, hS.F ht⟩) hS.2.2 dX11_told_29
set_option maxHeartbeats 4000000 in
set_option maxRecDepth 100000 in
theorem tX11_output_n1 (l : Launch) (dC : Nat → ClassId) (dI : Nat → Nat → Nat) (h0 h1 h2 : Nat) (sz : Nat) (k0 k1 : ClassId) (x0 : Int32) : Met l yX11_output (.code yX11_output cX11_output 4 (some .int) :: wP) ({ frames := 0, cells := 0, slots := 0, locals := 0 }) (Pz dC dI [.ref h0, .int 0, .int x0] sz [(h0, .inr (7, [.ref h1, .int 0, .ref h2, .int 0, .int (-1), .null, .null, .null, .null, .null, .null, .null, .null, .null, .null])), (h1, .inl (k0, 4000, .inl (fun _ => 0))), (h2, .inl (k1, 50, .inl (fun _ => 0)))] [(k0, .byte), (k1, .int)]) (va_Qi (fun (r : Int32) (_ : Unit) => r = 0) (fun (_ : Unit) (_ : State) => True) (va_A [(h0, .inr (7, [.ref h1, .int 0, .ref h2, .int 0, .int (-1), .null, .null, .null, .null, .null, .null, .null, .null, .null, .null])), (h1, .inl (k0, 4000, .inl (fun _ => 0))), (h2, .inl (k1, 50, .inl (fun _ => 0)))] sz)) 0 0 (va_A [(h0, .inr (7, [.ref h1, .int 0, .ref h2, .int 0, .int (-1), .null, .null, .null, .null, .null, .null, .null, .null, .null, .null])), (h1, .inl (k0, 4000, .inl (fun _ => 0))), (h2, .inl (k1, 50, .inl (fun _ => 0)))] sz) := by
  refine Met.ofW (cc := cX11_output) (maxL := 4) (ret := (some .int)) (by decide) rfl ?_
  intro p e s m args below meth c s₁ B hml hv
  obtain ⟨rfl, hsz, hP, hK, hD0⟩ := hv
  have hx := B.exec
  have hb := B.bytes
  have hr := B.returns
  have hts := atoms_spec (ws := .code yX11_output cX11_output 4 (some .int) :: wP) B.pre
  have hw : ∀ w ∈ wP, w.before _ s = true := fun w h => hts w (List.mem_cons_of_mem _ h)
  have hown : s.vm.findClass RX11 = some m.cls := findClass_of_methodNamed B.named
  have hlocks := B.notSynchronized
  subst hsz
  have hD := hD0.self (sz := s.heap.size)
  generalize hAe : va_A [(h0, .inr (7, [.ref h1, .int 0, .ref h2, .int 0, .int (-1), .null, .null, .null, .null, .null, .null, .null, .null, .null, .null])), (h1, .inl (k0, 4000, .inl (fun _ => 0))), (h2, .inl (k1, 50, .inl (fun _ => 0)))] s.heap.size = A at hD ⊢
  have hA : ∀ q : Nat, s.heap.size ≤ q → A q := fun q h => by rw [← hAe]; exact Or.inr h
  have hS : va_S A s.heap s.heap [] := va_S.rf
  have hP : va_P (dC, dI) vC [(h0, .inr (7, [.ref h1, .int 0, .ref h2, .int 0, .int (-1), .null, .null, .null, .null, .null, .null, .null, .null, .null, .null])), (h1, .inl (k0, 4000, .inl (fun _ => 0))), (h2, .inl (k1, 50, .inl (fun _ => 0)))] s.heap := hP
  have hl := lv_entry ([.ref h0, .int 0, .int x0]) (n := 4) (Nat.le_of_ble_eq_true rfl)
  rw [lg_entry_eq]
  generalize (lg_sl ([.ref h0, .int 0, .int x0]) ++ List.replicate (4 - (lg_sl ([.ref h0, .int 0, .int x0])).length) Slot.unset).toArray = ls at hl ⊢
  have hl : lv_has ls 4 [(0, .ref h0), (1, .int 0), (2, .int x0)] := hl
  refine lv_iload_n hx hb dX11_output_0 rfl (lv_at hl 1 rfl) ?_
  refine lv_if_eq (tgt := 11) hx hb dX11_output_1 (by decide) (fun _ => ?_) (fun c => absurd (by decide +kernel) c)
  refine lv_aload_n hx hb dX11_output_11 rfl (lv_at hl 0 rfl) ?_
  refine va_get (D := (dC, dI)) (ci := 7) (v := .null) (C := RX11) (T := TX11) (N := 15) hx hb hw inX11 hown hK hP 0 rfl rfl 13 (by decide) (hw _ mP_545) (fun _ h9 => h9) rfl dX11_output_12 ?_
  refine lv_astore_nN (lv' := [(3, .null), (0, .ref h0), (1, .int 0), (2, .int x0)]) hx hb dX11_output_15 rfl hl (by decide) rfl (fun ls hl => ?_)
  refine lv_aload_nN hx hb dX11_output_16 rfl (lv_at hl 0 rfl) ?_
  refine lv_ifnonnullN hx hb dX11_output_17 ?_
  refine lv_iconst (v := 0) hx hb dX11_output_20 (by decide) ?_
  refine lv_goto (tgt := 29) hx hb dX11_output_21 (by decide) ?_
  refine W.widen (k := 0) (n := 0) (Nat.le_of_ble_eq_true rfl) (Nat.le_of_ble_eq_true rfl) ?_
  exact W.iret (v := 0) hx hb hr (fun t ht hW => ⟨⟨0, (), rfl, rfl, trivial⟩, hS.F ht⟩) hS.2.2 dX11_output_29
set_option maxHeartbeats 4000000 in
set_option maxRecDepth 100000 in
theorem tX12_output_n1 (l : Launch) (dC : Nat → ClassId) (dI : Nat → Nat → Nat) (h0 h1 h2 h3 h4 h5 h6 h7 h8 h9 h10 h11 h12 h13 j0 : Nat) (sz : Nat) (k0 k1 k2 k3 k4 k5 k6 k7 k8 k9 k10 k11 k12 : ClassId) (x0 : Int32) (fs : List Value) (hF : MF fs [.ref j0, .ref h1, .int 0, .int 0, .ref h2, .ref h3, .ref h4, .int 0, .int 0, .int 0, .int (-1), .int (-1), .ref h5, .ref h6, .ref h7, .ref h8, .ref h9, .ref h10, .ref h11, .int 0, .int 0, .int 0, .int 0, .ref h13, .ref h12, .int 0]) : Met l yX12_output (.code yX12_output cX12_output 4 (some .int) :: wP) ({ frames := 0, cells := 0, slots := 0, locals := 0 }) (Pz dC dI [.ref h0, .int 0, .int x0] sz [(h0, .inr (8, fs)), (h1, .inl (k0, 4000, .inl (fun _ => 0))), (h2, .inl (k1, 1203, .inl (fun _ => 0))), (h3, .inl (k2, 1203, .inl (fun _ => 0))), (h4, .inl (k3, 1203, .inl (fun _ => 0))), (h5, .inl (k4, 2, .inl (fun _ => 0))), (h6, .inl (k5, 2, .inl (fun _ => 0))), (h7, .inl (k6, 2, .inl (fun _ => 0))), (h8, .inl (k7, 2, .inl (fun _ => 0))), (h9, .inl (k8, 2, .inl (fun _ => 0))), (h10, .inl (k9, 2, .inl (fun _ => 0))), (h11, .inl (k10, 2, .inl (fun _ => 0))), (h12, .inl (k11, 50, .inl (fun _ => 0))), (h13, .inl (k12, 2, .inl (upd (fun _ => 0) (0 : Int32).toNatClampNeg (vp_nar .boolean 0))))] [(k0, .byte), (k1, .int), (k2, .int), (k3, .int), (k4, .int), (k5, .int), (k6, .int), (k7, .int), (k8, .int), (k9, .int), (k10, .int), (k11, .int), (k12, .boolean)]) (va_Qi (fun (r : Int32) (_ : Unit) => r = 0) (fun (_ : Unit) (_ : State) => True) (va_A [(h0, .inr (8, fs)), (h1, .inl (k0, 4000, .inl (fun _ => 0))), (h2, .inl (k1, 1203, .inl (fun _ => 0))), (h3, .inl (k2, 1203, .inl (fun _ => 0))), (h4, .inl (k3, 1203, .inl (fun _ => 0))), (h5, .inl (k4, 2, .inl (fun _ => 0))), (h6, .inl (k5, 2, .inl (fun _ => 0))), (h7, .inl (k6, 2, .inl (fun _ => 0))), (h8, .inl (k7, 2, .inl (fun _ => 0))), (h9, .inl (k8, 2, .inl (fun _ => 0))), (h10, .inl (k9, 2, .inl (fun _ => 0))), (h11, .inl (k10, 2, .inl (fun _ => 0))), (h12, .inl (k11, 50, .inl (fun _ => 0))), (h13, .inl (k12, 2, .inl (upd (fun _ => 0) (0 : Int32).toNatClampNeg (vp_nar .boolean 0))))] sz)) 0 0 (va_A [(h0, .inr (8, fs)), (h1, .inl (k0, 4000, .inl (fun _ => 0))), (h2, .inl (k1, 1203, .inl (fun _ => 0))), (h3, .inl (k2, 1203, .inl (fun _ => 0))), (h4, .inl (k3, 1203, .inl (fun _ => 0))), (h5, .inl (k4, 2, .inl (fun _ => 0))), (h6, .inl (k5, 2, .inl (fun _ => 0))), (h7, .inl (k6, 2, .inl (fun _ => 0))), (h8, .inl (k7, 2, .inl (fun _ => 0))), (h9, .inl (k8, 2, .inl (fun _ => 0))), (h10, .inl (k9, 2, .inl (fun _ => 0))), (h11, .inl (k10, 2, .inl (fun _ => 0))), (h12, .inl (k11, 50, .inl (fun _ => 0))), (h13, .inl (k12, 2, .inl (upd (fun _ => 0) (0 : Int32).toNatClampNeg (vp_nar .boolean 0))))] sz) := by
  refine Met.ofW (cc := cX12_output) (maxL := 4) (ret := (some .int)) (by decide) rfl ?_
  intro p e s m args below meth c s₁ B hml hv
  obtain ⟨rfl, hsz, hP, hK, hD0⟩ := hv
  have hx := B.exec
  have hb := B.bytes
  have hr := B.returns
  have hts := atoms_spec (ws := .code yX12_output cX12_output 4 (some .int) :: wP) B.pre
  have hw : ∀ w ∈ wP, w.before _ s = true := fun w h => hts w (List.mem_cons_of_mem _ h)
  have hown : s.vm.findClass RX12 = some m.cls := findClass_of_methodNamed B.named
  have hlocks := B.notSynchronized
  subst hsz
  have hD := hD0.self (sz := s.heap.size)
  generalize hAe : va_A [(h0, .inr (8, fs)), (h1, .inl (k0, 4000, .inl (fun _ => 0))), (h2, .inl (k1, 1203, .inl (fun _ => 0))), (h3, .inl (k2, 1203, .inl (fun _ => 0))), (h4, .inl (k3, 1203, .inl (fun _ => 0))), (h5, .inl (k4, 2, .inl (fun _ => 0))), (h6, .inl (k5, 2, .inl (fun _ => 0))), (h7, .inl (k6, 2, .inl (fun _ => 0))), (h8, .inl (k7, 2, .inl (fun _ => 0))), (h9, .inl (k8, 2, .inl (fun _ => 0))), (h10, .inl (k9, 2, .inl (fun _ => 0))), (h11, .inl (k10, 2, .inl (fun _ => 0))), (h12, .inl (k11, 50, .inl (fun _ => 0))), (h13, .inl (k12, 2, .inl (upd (fun _ => 0) (0 : Int32).toNatClampNeg (vp_nar .boolean 0))))] s.heap.size = A at hD ⊢
  have hA : ∀ q : Nat, s.heap.size ≤ q → A q := fun q h => by rw [← hAe]; exact Or.inr h
  have hS : va_S A s.heap s.heap [] := va_S.rf
  have hP : va_P (dC, dI) vC [(h0, .inr (8, fs)), (h1, .inl (k0, 4000, .inl (fun _ => 0))), (h2, .inl (k1, 1203, .inl (fun _ => 0))), (h3, .inl (k2, 1203, .inl (fun _ => 0))), (h4, .inl (k3, 1203, .inl (fun _ => 0))), (h5, .inl (k4, 2, .inl (fun _ => 0))), (h6, .inl (k5, 2, .inl (fun _ => 0))), (h7, .inl (k6, 2, .inl (fun _ => 0))), (h8, .inl (k7, 2, .inl (fun _ => 0))), (h9, .inl (k8, 2, .inl (fun _ => 0))), (h10, .inl (k9, 2, .inl (fun _ => 0))), (h11, .inl (k10, 2, .inl (fun _ => 0))), (h12, .inl (k11, 50, .inl (fun _ => 0))), (h13, .inl (k12, 2, .inl (upd (fun _ => 0) (0 : Int32).toNatClampNeg (vp_nar .boolean 0))))] s.heap := hP
  have hl := lv_entry ([.ref h0, .int 0, .int x0]) (n := 4) (Nat.le_of_ble_eq_true rfl)
  rw [lg_entry_eq]
  generalize (lg_sl ([.ref h0, .int 0, .int x0]) ++ List.replicate (4 - (lg_sl ([.ref h0, .int 0, .int x0])).length) Slot.unset).toArray = ls at hl ⊢
  have hl : lv_has ls 4 [(0, .ref h0), (1, .int 0), (2, .int x0)] := hl
  refine lv_iload_n hx hb dX12_output_0 rfl (lv_at hl 1 rfl) ?_
  refine lv_if_eq (tgt := 8) hx hb dX12_output_1 (by decide) (fun _ => ?_) (fun c => absurd (by decide +kernel) c)
  refine lv_iconst (v := 0) hx hb dX12_output_8 (by decide) ?_
  refine lv_istore_n (lv' := [(3, .int 0), (0, .ref h0), (1, .int 0), (2, .int x0)]) hx hb dX12_output_9 rfl hl (by decide) rfl (fun ls hl => ?_)
  refine lv_aload_n hx hb dX12_output_10 rfl (lv_at hl 1 rfl) ?_
  refine va_get (D := (dC, dI)) (ci := 8) (v := .ref h13) (C := RX12) (T := TX12) (N := 105) hx hb hw inX12 hown hK hP 0 rfl rfl 94 (by decide) (hw _ mP_121) (fun _ h9 => h9) (hF.get 23 rfl rfl) dX12_output_11 ?_
  refine lv_iload_n hx hb dX12_output_14 rfl (lv_at hl 0 rfl) ?_
  refine va_zald hx hb hK hP 13 12 rfl rfl (vin (by decide +kernel)) dX12_output_15 ?_
  refine lv_nmi (y := 0) (by decide +kernel) ?_
  refine lv_if_eq (tgt := 53) hx hb dX12_output_16 (by decide) (fun _ => ?_) (fun c => absurd (by decide +kernel) c)
  refine lv_iconst (v := 0) hx hb dX12_output_53 (by decide) ?_
  refine W.widen (k := 0) (n := 0) (Nat.le_of_ble_eq_true rfl) (Nat.le_of_ble_eq_true rfl) ?_
  exact W.iret (v := 0) hx hb hr (fun t ht hW => ⟨⟨0, (), rfl, rfl, trivial⟩, hS.F ht⟩) hS.2.2 dX12_output_54
set_option maxHeartbeats 4000000 in
set_option maxRecDepth 100000 in
theorem tX12_output_n2 (l : Launch) (dC : Nat → ClassId) (dI : Nat → Nat → Nat) (h0 h1 h2 h3 h4 h5 h6 h7 h8 h9 h10 h11 h12 h13 j0 : Nat) (sz : Nat) (k0 k1 k2 k3 k4 k5 k6 k7 k8 k9 k10 k11 k12 : ClassId) (x0 : Int32) (fs : List Value) (hF : MF fs [.ref j0, .ref h1, .int 0, .int 0, .ref h2, .ref h3, .ref h4, .int 0, .int 0, .int 0, .int (-1), .int (-1), .ref h5, .ref h6, .ref h7, .ref h8, .ref h9, .ref h10, .ref h11, .int 0, .int 0, .int 0, .int 0, .ref h13, .ref h12, .int 0]) : Met l yX12_output (.code yX12_output cX12_output 4 (some .int) :: wP) ({ frames := 0, cells := 0, slots := 0, locals := 0 }) (Pz dC dI [.ref h0, .int 1, .int x0] sz [(h0, .inr (8, fs)), (h1, .inl (k0, 4000, .inl (fun _ => 0))), (h2, .inl (k1, 1203, .inl (fun _ => 0))), (h3, .inl (k2, 1203, .inl (fun _ => 0))), (h4, .inl (k3, 1203, .inl (fun _ => 0))), (h5, .inl (k4, 2, .inl (fun _ => 0))), (h6, .inl (k5, 2, .inl (fun _ => 0))), (h7, .inl (k6, 2, .inl (fun _ => 0))), (h8, .inl (k7, 2, .inl (fun _ => 0))), (h9, .inl (k8, 2, .inl (fun _ => 0))), (h10, .inl (k9, 2, .inl (fun _ => 0))), (h11, .inl (k10, 2, .inl (fun _ => 0))), (h12, .inl (k11, 50, .inl (fun _ => 0))), (h13, .inl (k12, 2, .inl (upd (fun _ => 0) (0 : Int32).toNatClampNeg (vp_nar .boolean 0))))] [(k0, .byte), (k1, .int), (k2, .int), (k3, .int), (k4, .int), (k5, .int), (k6, .int), (k7, .int), (k8, .int), (k9, .int), (k10, .int), (k11, .int), (k12, .boolean)]) (va_Qi (fun (r : Int32) (_ : Unit) => r = 0) (fun (_ : Unit) (_ : State) => True) (va_A [(h0, .inr (8, fs)), (h1, .inl (k0, 4000, .inl (fun _ => 0))), (h2, .inl (k1, 1203, .inl (fun _ => 0))), (h3, .inl (k2, 1203, .inl (fun _ => 0))), (h4, .inl (k3, 1203, .inl (fun _ => 0))), (h5, .inl (k4, 2, .inl (fun _ => 0))), (h6, .inl (k5, 2, .inl (fun _ => 0))), (h7, .inl (k6, 2, .inl (fun _ => 0))), (h8, .inl (k7, 2, .inl (fun _ => 0))), (h9, .inl (k8, 2, .inl (fun _ => 0))), (h10, .inl (k9, 2, .inl (fun _ => 0))), (h11, .inl (k10, 2, .inl (fun _ => 0))), (h12, .inl (k11, 50, .inl (fun _ => 0))), (h13, .inl (k12, 2, .inl (upd (fun _ => 0) (0 : Int32).toNatClampNeg (vp_nar .boolean 0))))] sz)) 0 0 (va_A [(h0, .inr (8, fs)), (h1, .inl (k0, 4000, .inl (fun _ => 0))), (h2, .inl (k1, 1203, .inl (fun _ => 0))), (h3, .inl (k2, 1203, .inl (fun _ => 0))), (h4, .inl (k3, 1203, .inl (fun _ => 0))), (h5, .inl (k4, 2, .inl (fun _ => 0))), (h6, .inl (k5, 2, .inl (fun _ => 0))), (h7, .inl (k6, 2, .inl (fun _ => 0))), (h8, .inl (k7, 2, .inl (fun _ => 0))), (h9, .inl (k8, 2, .inl (fun _ => 0))), (h10, .inl (k9, 2, .inl (fun _ => 0))), (h11, .inl (k10, 2, .inl (fun _ => 0))), (h12, .inl (k11, 50, .inl (fun _ => 0))), (h13, .inl (k12, 2, .inl (upd (fun _ => 0) (0 : Int32).toNatClampNeg (vp_nar .boolean 0))))] sz) := by
  refine Met.ofW (cc := cX12_output) (maxL := 4) (ret := (some .int)) (by decide) rfl ?_
  intro p e s m args below meth c s₁ B hml hv
  obtain ⟨rfl, hsz, hP, hK, hD0⟩ := hv
  have hx := B.exec
  have hb := B.bytes
  have hr := B.returns
  have hts := atoms_spec (ws := .code yX12_output cX12_output 4 (some .int) :: wP) B.pre
  have hw : ∀ w ∈ wP, w.before _ s = true := fun w h => hts w (List.mem_cons_of_mem _ h)
  have hown : s.vm.findClass RX12 = some m.cls := findClass_of_methodNamed B.named
  have hlocks := B.notSynchronized
  subst hsz
  have hD := hD0.self (sz := s.heap.size)
  generalize hAe : va_A [(h0, .inr (8, fs)), (h1, .inl (k0, 4000, .inl (fun _ => 0))), (h2, .inl (k1, 1203, .inl (fun _ => 0))), (h3, .inl (k2, 1203, .inl (fun _ => 0))), (h4, .inl (k3, 1203, .inl (fun _ => 0))), (h5, .inl (k4, 2, .inl (fun _ => 0))), (h6, .inl (k5, 2, .inl (fun _ => 0))), (h7, .inl (k6, 2, .inl (fun _ => 0))), (h8, .inl (k7, 2, .inl (fun _ => 0))), (h9, .inl (k8, 2, .inl (fun _ => 0))), (h10, .inl (k9, 2, .inl (fun _ => 0))), (h11, .inl (k10, 2, .inl (fun _ => 0))), (h12, .inl (k11, 50, .inl (fun _ => 0))), (h13, .inl (k12, 2, .inl (upd (fun _ => 0) (0 : Int32).toNatClampNeg (vp_nar .boolean 0))))] s.heap.size = A at hD ⊢
  have hA : ∀ q : Nat, s.heap.size ≤ q → A q := fun q h => by rw [← hAe]; exact Or.inr h
  have hS : va_S A s.heap s.heap [] := va_S.rf
  have hP : va_P (dC, dI) vC [(h0, .inr (8, fs)), (h1, .inl (k0, 4000, .inl (fun _ => 0))), (h2, .inl (k1, 1203, .inl (fun _ => 0))), (h3, .inl (k2, 1203, .inl (fun _ => 0))), (h4, .inl (k3, 1203, .inl (fun _ => 0))), (h5, .inl (k4, 2, .inl (fun _ => 0))), (h6, .inl (k5, 2, .inl (fun _ => 0))), (h7, .inl (k6, 2, .inl (fun _ => 0))), (h8, .inl (k7, 2, .inl (fun _ => 0))), (h9, .inl (k8, 2, .inl (fun _ => 0))), (h10, .inl (k9, 2, .inl (fun _ => 0))), (h11, .inl (k10, 2, .inl (fun _ => 0))), (h12, .inl (k11, 50, .inl (fun _ => 0))), (h13, .inl (k12, 2, .inl (upd (fun _ => 0) (0 : Int32).toNatClampNeg (vp_nar .boolean 0))))] s.heap := hP
  have hl := lv_entry ([.ref h0, .int 1, .int x0]) (n := 4) (Nat.le_of_ble_eq_true rfl)
  rw [lg_entry_eq]
  generalize (lg_sl ([.ref h0, .int 1, .int x0]) ++ List.replicate (4 - (lg_sl ([.ref h0, .int 1, .int x0])).length) Slot.unset).toArray = ls at hl ⊢
  have hl : lv_has ls 4 [(0, .ref h0), (1, .int 1), (2, .int x0)] := hl
  refine lv_iload_n hx hb dX12_output_0 rfl (lv_at hl 1 rfl) ?_
  refine lv_if_eq (tgt := 8) hx hb dX12_output_1 (by decide) (fun c => absurd c (by decide +kernel)) (fun _ => ?_)
  refine lv_iconst (v := 1) hx hb dX12_output_4 (by decide) ?_
  refine lv_goto (tgt := 9) hx hb dX12_output_5 (by decide) ?_
  refine lv_istore_n (lv' := [(3, .int 1), (0, .ref h0), (1, .int 1), (2, .int x0)]) hx hb dX12_output_9 rfl hl (by decide) rfl (fun ls hl => ?_)
  refine lv_aload_n hx hb dX12_output_10 rfl (lv_at hl 1 rfl) ?_
  refine va_get (D := (dC, dI)) (ci := 8) (v := .ref h13) (C := RX12) (T := TX12) (N := 105) hx hb hw inX12 hown hK hP 0 rfl rfl 94 (by decide) (hw _ mP_121) (fun _ h9 => h9) (hF.get 23 rfl rfl) dX12_output_11 ?_
  refine lv_iload_n hx hb dX12_output_14 rfl (lv_at hl 0 rfl) ?_
  refine va_zald hx hb hK hP 13 12 rfl rfl (vin (by decide +kernel)) dX12_output_15 ?_
  refine lv_nmi (y := 0) (by decide +kernel) ?_
  refine lv_if_eq (tgt := 53) hx hb dX12_output_16 (by decide) (fun _ => ?_) (fun c => absurd (by decide +kernel) c)
  refine lv_iconst (v := 0) hx hb dX12_output_53 (by decide) ?_
  refine W.widen (k := 0) (n := 0) (Nat.le_of_ble_eq_true rfl) (Nat.le_of_ble_eq_true rfl) ?_
  exact W.iret (v := 0) hx hb hr (fun t ht hW => ⟨⟨0, (), rfl, rfl, trivial⟩, hS.F ht⟩) hS.2.2 dX12_output_54
set_option maxHeartbeats 4000000 in
set_option maxRecDepth 100000 in
theorem tX11_output_n2 (l : Launch) (dC : Nat → ClassId) (dI : Nat → Nat → Nat) (h0 h1 h2 : Nat) (sz : Nat) (k0 k1 : ClassId) (x0 : Int32) : Met l yX11_output (.code yX11_output cX11_output 4 (some .int) :: wP) ({ frames := 0, cells := 0, slots := 0, locals := 0 }) (Pz dC dI [.ref h0, .int 1, .int x0] sz [(h0, .inr (7, [.ref h1, .int 0, .ref h2, .int 0, .int (-1), .null, .null, .null, .null, .null, .null, .null, .null, .null, .null])), (h1, .inl (k0, 4000, .inl (fun _ => 0))), (h2, .inl (k1, 50, .inl (fun _ => 0)))] [(k0, .byte), (k1, .int)]) (va_Qi (fun (r : Int32) (_ : Unit) => r = 0) (fun (_ : Unit) (_ : State) => True) (va_A [(h0, .inr (7, [.ref h1, .int 0, .ref h2, .int 0, .int (-1), .null, .null, .null, .null, .null, .null, .null, .null, .null, .null])), (h1, .inl (k0, 4000, .inl (fun _ => 0))), (h2, .inl (k1, 50, .inl (fun _ => 0)))] sz)) 0 0 (va_A [(h0, .inr (7, [.ref h1, .int 0, .ref h2, .int 0, .int (-1), .null, .null, .null, .null, .null, .null, .null, .null, .null, .null])), (h1, .inl (k0, 4000, .inl (fun _ => 0))), (h2, .inl (k1, 50, .inl (fun _ => 0)))] sz) := by
  refine Met.ofW (cc := cX11_output) (maxL := 4) (ret := (some .int)) (by decide) rfl ?_
  intro p e s m args below meth c s₁ B hml hv
  obtain ⟨rfl, hsz, hP, hK, hD0⟩ := hv
  have hx := B.exec
  have hb := B.bytes
  have hr := B.returns
  have hts := atoms_spec (ws := .code yX11_output cX11_output 4 (some .int) :: wP) B.pre
  have hw : ∀ w ∈ wP, w.before _ s = true := fun w h => hts w (List.mem_cons_of_mem _ h)
  have hown : s.vm.findClass RX11 = some m.cls := findClass_of_methodNamed B.named
  have hlocks := B.notSynchronized
  subst hsz
  have hD := hD0.self (sz := s.heap.size)
  generalize hAe : va_A [(h0, .inr (7, [.ref h1, .int 0, .ref h2, .int 0, .int (-1), .null, .null, .null, .null, .null, .null, .null, .null, .null, .null])), (h1, .inl (k0, 4000, .inl (fun _ => 0))), (h2, .inl (k1, 50, .inl (fun _ => 0)))] s.heap.size = A at hD ⊢
  have hA : ∀ q : Nat, s.heap.size ≤ q → A q := fun q h => by rw [← hAe]; exact Or.inr h
  have hS : va_S A s.heap s.heap [] := va_S.rf
  have hP : va_P (dC, dI) vC [(h0, .inr (7, [.ref h1, .int 0, .ref h2, .int 0, .int (-1), .null, .null, .null, .null, .null, .null, .null, .null, .null, .null])), (h1, .inl (k0, 4000, .inl (fun _ => 0))), (h2, .inl (k1, 50, .inl (fun _ => 0)))] s.heap := hP
  have hl := lv_entry ([.ref h0, .int 1, .int x0]) (n := 4) (Nat.le_of_ble_eq_true rfl)
  rw [lg_entry_eq]
  generalize (lg_sl ([.ref h0, .int 1, .int x0]) ++ List.replicate (4 - (lg_sl ([.ref h0, .int 1, .int x0])).length) Slot.unset).toArray = ls at hl ⊢
  have hl : lv_has ls 4 [(0, .ref h0), (1, .int 1), (2, .int x0)] := hl
  refine lv_iload_n hx hb dX11_output_0 rfl (lv_at hl 1 rfl) ?_
  refine lv_if_eq (tgt := 11) hx hb dX11_output_1 (by decide) (fun c => absurd c (by decide +kernel)) (fun _ => ?_)
  refine lv_aload_n hx hb dX11_output_4 rfl (lv_at hl 0 rfl) ?_
  refine va_get (D := (dC, dI)) (ci := 7) (v := .null) (C := RX11) (T := TX11) (N := 15) hx hb hw inX11 hown hK hP 0 rfl rfl 14 (by decide) (hw _ mP_554) (fun _ h9 => h9) rfl dX11_output_5 ?_
  refine lv_goto (tgt := 15) hx hb dX11_output_8 (by decide) ?_
  refine lv_astore_nN (lv' := [(3, .null), (0, .ref h0), (1, .int 1), (2, .int x0)]) hx hb dX11_output_15 rfl hl (by decide) rfl (fun ls hl => ?_)
  refine lv_aload_nN hx hb dX11_output_16 rfl (lv_at hl 0 rfl) ?_
  refine lv_ifnonnullN hx hb dX11_output_17 ?_
  refine lv_iconst (v := 0) hx hb dX11_output_20 (by decide) ?_
  refine lv_goto (tgt := 29) hx hb dX11_output_21 (by decide) ?_
  refine W.widen (k := 0) (n := 0) (Nat.le_of_ble_eq_true rfl) (Nat.le_of_ble_eq_true rfl) ?_
  exact W.iret (v := 0) hx hb hr (fun t ht hW => ⟨⟨0, (), rfl, rfl, trivial⟩, hS.F ht⟩) hS.2.2 dX11_output_29
set_option maxHeartbeats 4000000 in
set_option maxRecDepth 100000 in
theorem tX11_memory_n1 (l : Launch) (dC : Nat → ClassId) (dI : Nat → Nat → Nat) (h0 h1 h2 : Nat) (sz : Nat) (k0 k1 : ClassId) (x0 : Int32) : Met l yX11_memory (.code yX11_memory cX11_memory 4 (some .int) :: wP) ({ frames := 0, cells := 0, slots := 0, locals := 0 }) (Pz dC dI [.ref h0, .int 0, .int x0] sz [(h0, .inr (7, [.ref h1, .int 0, .ref h2, .int 0, .int (-1), .null, .null, .null, .null, .null, .null, .null, .null, .null, .null])), (h1, .inl (k0, 4000, .inl (fun _ => 0))), (h2, .inl (k1, 50, .inl (fun _ => 0)))] [(k0, .byte), (k1, .int)]) (va_Qi (fun (r : Int32) (_ : Unit) => r = 0) (fun (_ : Unit) (_ : State) => True) (va_A [(h0, .inr (7, [.ref h1, .int 0, .ref h2, .int 0, .int (-1), .null, .null, .null, .null, .null, .null, .null, .null, .null, .null])), (h1, .inl (k0, 4000, .inl (fun _ => 0))), (h2, .inl (k1, 50, .inl (fun _ => 0)))] sz)) 0 0 (va_A [(h0, .inr (7, [.ref h1, .int 0, .ref h2, .int 0, .int (-1), .null, .null, .null, .null, .null, .null, .null, .null, .null, .null])), (h1, .inl (k0, 4000, .inl (fun _ => 0))), (h2, .inl (k1, 50, .inl (fun _ => 0)))] sz) := by
  refine Met.ofW (cc := cX11_memory) (maxL := 4) (ret := (some .int)) (by decide) rfl ?_
  intro p e s m args below meth c s₁ B hml hv
  obtain ⟨rfl, hsz, hP, hK, hD0⟩ := hv
  have hx := B.exec
  have hb := B.bytes
  have hr := B.returns
  have hts := atoms_spec (ws := .code yX11_memory cX11_memory 4 (some .int) :: wP) B.pre
  have hw : ∀ w ∈ wP, w.before _ s = true := fun w h => hts w (List.mem_cons_of_mem _ h)
  have hown : s.vm.findClass RX11 = some m.cls := findClass_of_methodNamed B.named
  have hlocks := B.notSynchronized
  subst hsz
  have hD := hD0.self (sz := s.heap.size)
  generalize hAe : va_A [(h0, .inr (7, [.ref h1, .int 0, .ref h2, .int 0, .int (-1), .null, .null, .null, .null, .null, .null, .null, .null, .null, .null])), (h1, .inl (k0, 4000, .inl (fun _ => 0))), (h2, .inl (k1, 50, .inl (fun _ => 0)))] s.heap.size = A at hD ⊢
  have hA : ∀ q : Nat, s.heap.size ≤ q → A q := fun q h => by rw [← hAe]; exact Or.inr h
  have hS : va_S A s.heap s.heap [] := va_S.rf
  have hP : va_P (dC, dI) vC [(h0, .inr (7, [.ref h1, .int 0, .ref h2, .int 0, .int (-1), .null, .null, .null, .null, .null, .null, .null, .null, .null, .null])), (h1, .inl (k0, 4000, .inl (fun _ => 0))), (h2, .inl (k1, 50, .inl (fun _ => 0)))] s.heap := hP
  have hl := lv_entry ([.ref h0, .int 0, .int x0]) (n := 4) (Nat.le_of_ble_eq_true rfl)
  rw [lg_entry_eq]
  generalize (lg_sl ([.ref h0, .int 0, .int x0]) ++ List.replicate (4 - (lg_sl ([.ref h0, .int 0, .int x0])).length) Slot.unset).toArray = ls at hl ⊢
  have hl : lv_has ls 4 [(0, .ref h0), (1, .int 0), (2, .int x0)] := hl
  refine lv_iload_n hx hb dX11_memory_0 rfl (lv_at hl 1 rfl) ?_
  refine lv_if_eq (tgt := 11) hx hb dX11_memory_1 (by decide) (fun _ => ?_) (fun c => absurd (by decide +kernel) c)
  refine lv_aload_n hx hb dX11_memory_11 rfl (lv_at hl 0 rfl) ?_
  refine va_get (D := (dC, dI)) (ci := 7) (v := .null) (C := RX11) (T := TX11) (N := 15) hx hb hw inX11 hown hK hP 0 rfl rfl 13 (by decide) (hw _ mP_545) (fun _ h9 => h9) rfl dX11_memory_12 ?_
  refine lv_astore_nN (lv' := [(3, .null), (0, .ref h0), (1, .int 0), (2, .int x0)]) hx hb dX11_memory_15 rfl hl (by decide) rfl (fun ls hl => ?_)
  refine lv_aload_nN hx hb dX11_memory_16 rfl (lv_at hl 0 rfl) ?_
  refine lv_ifnonnullN hx hb dX11_memory_17 ?_
  refine lv_iconst (v := 0) hx hb dX11_memory_20 (by decide) ?_
  refine lv_goto (tgt := 29) hx hb dX11_memory_21 (by decide) ?_
  refine W.widen (k := 0) (n := 0) (Nat.le_of_ble_eq_true rfl) (Nat.le_of_ble_eq_true rfl) ?_
  exact W.iret (v := 0) hx hb hr (fun t ht hW => ⟨⟨0, (), rfl, rfl, trivial⟩, hS.F ht⟩) hS.2.2 dX11_memory_29
set_option maxHeartbeats 4000000 in
set_option maxRecDepth 100000 in
theorem tX12_memory_n1 (l : Launch) (dC : Nat → ClassId) (dI : Nat → Nat → Nat) (h0 h1 h2 h3 h4 h5 h6 h7 h8 h9 h10 h11 h12 h13 j0 : Nat) (sz : Nat) (k0 k1 k2 k3 k4 k5 k6 k7 k8 k9 k10 k11 k12 : ClassId) (x0 : Int32) (fs : List Value) (hF : MF fs [.ref j0, .ref h1, .int 0, .int 0, .ref h2, .ref h3, .ref h4, .int 0, .int 0, .int 0, .int (-1), .int (-1), .ref h5, .ref h6, .ref h7, .ref h8, .ref h9, .ref h10, .ref h11, .int 0, .int 0, .int 0, .int 0, .ref h13, .ref h12, .int 0]) : Met l yX12_memory (.code yX12_memory cX12_memory 4 (some .int) :: wP) ({ frames := 0, cells := 0, slots := 0, locals := 0 }) (Pz dC dI [.ref h0, .int 0, .int x0] sz [(h0, .inr (8, fs)), (h1, .inl (k0, 4000, .inl (fun _ => 0))), (h2, .inl (k1, 1203, .inl (fun _ => 0))), (h3, .inl (k2, 1203, .inl (fun _ => 0))), (h4, .inl (k3, 1203, .inl (fun _ => 0))), (h5, .inl (k4, 2, .inl (fun _ => 0))), (h6, .inl (k5, 2, .inl (fun _ => 0))), (h7, .inl (k6, 2, .inl (fun _ => 0))), (h8, .inl (k7, 2, .inl (fun _ => 0))), (h9, .inl (k8, 2, .inl (fun _ => 0))), (h10, .inl (k9, 2, .inl (fun _ => 0))), (h11, .inl (k10, 2, .inl (fun _ => 0))), (h12, .inl (k11, 50, .inl (fun _ => 0))), (h13, .inl (k12, 2, .inl (upd (fun _ => 0) (0 : Int32).toNatClampNeg (vp_nar .boolean 0))))] [(k0, .byte), (k1, .int), (k2, .int), (k3, .int), (k4, .int), (k5, .int), (k6, .int), (k7, .int), (k8, .int), (k9, .int), (k10, .int), (k11, .int), (k12, .boolean)]) (va_Qi (fun (r : Int32) (_ : Unit) => r = 0) (fun (_ : Unit) (_ : State) => True) (va_A [(h0, .inr (8, fs)), (h1, .inl (k0, 4000, .inl (fun _ => 0))), (h2, .inl (k1, 1203, .inl (fun _ => 0))), (h3, .inl (k2, 1203, .inl (fun _ => 0))), (h4, .inl (k3, 1203, .inl (fun _ => 0))), (h5, .inl (k4, 2, .inl (fun _ => 0))), (h6, .inl (k5, 2, .inl (fun _ => 0))), (h7, .inl (k6, 2, .inl (fun _ => 0))), (h8, .inl (k7, 2, .inl (fun _ => 0))), (h9, .inl (k8, 2, .inl (fun _ => 0))), (h10, .inl (k9, 2, .inl (fun _ => 0))), (h11, .inl (k10, 2, .inl (fun _ => 0))), (h12, .inl (k11, 50, .inl (fun _ => 0))), (h13, .inl (k12, 2, .inl (upd (fun _ => 0) (0 : Int32).toNatClampNeg (vp_nar .boolean 0))))] sz)) 0 0 (va_A [(h0, .inr (8, fs)), (h1, .inl (k0, 4000, .inl (fun _ => 0))), (h2, .inl (k1, 1203, .inl (fun _ => 0))), (h3, .inl (k2, 1203, .inl (fun _ => 0))), (h4, .inl (k3, 1203, .inl (fun _ => 0))), (h5, .inl (k4, 2, .inl (fun _ => 0))), (h6, .inl (k5, 2, .inl (fun _ => 0))), (h7, .inl (k6, 2, .inl (fun _ => 0))), (h8, .inl (k7, 2, .inl (fun _ => 0))), (h9, .inl (k8, 2, .inl (fun _ => 0))), (h10, .inl (k9, 2, .inl (fun _ => 0))), (h11, .inl (k10, 2, .inl (fun _ => 0))), (h12, .inl (k11, 50, .inl (fun _ => 0))), (h13, .inl (k12, 2, .inl (upd (fun _ => 0) (0 : Int32).toNatClampNeg (vp_nar .boolean 0))))] sz) := by
  refine Met.ofW (cc := cX12_memory) (maxL := 4) (ret := (some .int)) (by decide) rfl ?_
  intro p e s m args below meth c s₁ B hml hv
  obtain ⟨rfl, hsz, hP, hK, hD0⟩ := hv
  have hx := B.exec
  have hb := B.bytes
  have hr := B.returns
  have hts := atoms_spec (ws := .code yX12_memory cX12_memory 4 (some .int) :: wP) B.pre
  have hw : ∀ w ∈ wP, w.before _ s = true := fun w h => hts w (List.mem_cons_of_mem _ h)
  have hown : s.vm.findClass RX12 = some m.cls := findClass_of_methodNamed B.named
  have hlocks := B.notSynchronized
  subst hsz
  have hD := hD0.self (sz := s.heap.size)
  generalize hAe : va_A [(h0, .inr (8, fs)), (h1, .inl (k0, 4000, .inl (fun _ => 0))), (h2, .inl (k1, 1203, .inl (fun _ => 0))), (h3, .inl (k2, 1203, .inl (fun _ => 0))), (h4, .inl (k3, 1203, .inl (fun _ => 0))), (h5, .inl (k4, 2, .inl (fun _ => 0))), (h6, .inl (k5, 2, .inl (fun _ => 0))), (h7, .inl (k6, 2, .inl (fun _ => 0))), (h8, .inl (k7, 2, .inl (fun _ => 0))), (h9, .inl (k8, 2, .inl (fun _ => 0))), (h10, .inl (k9, 2, .inl (fun _ => 0))), (h11, .inl (k10, 2, .inl (fun _ => 0))), (h12, .inl (k11, 50, .inl (fun _ => 0))), (h13, .inl (k12, 2, .inl (upd (fun _ => 0) (0 : Int32).toNatClampNeg (vp_nar .boolean 0))))] s.heap.size = A at hD ⊢
  have hA : ∀ q : Nat, s.heap.size ≤ q → A q := fun q h => by rw [← hAe]; exact Or.inr h
  have hS : va_S A s.heap s.heap [] := va_S.rf
  have hP : va_P (dC, dI) vC [(h0, .inr (8, fs)), (h1, .inl (k0, 4000, .inl (fun _ => 0))), (h2, .inl (k1, 1203, .inl (fun _ => 0))), (h3, .inl (k2, 1203, .inl (fun _ => 0))), (h4, .inl (k3, 1203, .inl (fun _ => 0))), (h5, .inl (k4, 2, .inl (fun _ => 0))), (h6, .inl (k5, 2, .inl (fun _ => 0))), (h7, .inl (k6, 2, .inl (fun _ => 0))), (h8, .inl (k7, 2, .inl (fun _ => 0))), (h9, .inl (k8, 2, .inl (fun _ => 0))), (h10, .inl (k9, 2, .inl (fun _ => 0))), (h11, .inl (k10, 2, .inl (fun _ => 0))), (h12, .inl (k11, 50, .inl (fun _ => 0))), (h13, .inl (k12, 2, .inl (upd (fun _ => 0) (0 : Int32).toNatClampNeg (vp_nar .boolean 0))))] s.heap := hP
  have hl := lv_entry ([.ref h0, .int 0, .int x0]) (n := 4) (Nat.le_of_ble_eq_true rfl)
  rw [lg_entry_eq]
  generalize (lg_sl ([.ref h0, .int 0, .int x0]) ++ List.replicate (4 - (lg_sl ([.ref h0, .int 0, .int x0])).length) Slot.unset).toArray = ls at hl ⊢
  have hl : lv_has ls 4 [(0, .ref h0), (1, .int 0), (2, .int x0)] := hl
  refine lv_iload_n hx hb dX12_memory_0 rfl (lv_at hl 1 rfl) ?_
  refine lv_if_eq (tgt := 8) hx hb dX12_memory_1 (by decide) (fun _ => ?_) (fun c => absurd (by decide +kernel) c)
  refine lv_iconst (v := 0) hx hb dX12_memory_8 (by decide) ?_
  refine lv_istore_n (lv' := [(3, .int 0), (0, .ref h0), (1, .int 0), (2, .int x0)]) hx hb dX12_memory_9 rfl hl (by decide) rfl (fun ls hl => ?_)
  refine lv_aload_n hx hb dX12_memory_10 rfl (lv_at hl 1 rfl) ?_
  refine va_get (D := (dC, dI)) (ci := 8) (v := .ref h13) (C := RX12) (T := TX12) (N := 105) hx hb hw inX12 hown hK hP 0 rfl rfl 94 (by decide) (hw _ mP_121) (fun _ h9 => h9) (hF.get 23 rfl rfl) dX12_memory_11 ?_
  refine lv_iload_n hx hb dX12_memory_14 rfl (lv_at hl 0 rfl) ?_
  refine va_zald hx hb hK hP 13 12 rfl rfl (vin (by decide +kernel)) dX12_memory_15 ?_
  refine lv_nmi (y := 0) (by decide +kernel) ?_
  refine lv_if_eq (tgt := 43) hx hb dX12_memory_16 (by decide) (fun _ => ?_) (fun c => absurd (by decide +kernel) c)
  refine lv_iconst (v := 0) hx hb dX12_memory_43 (by decide) ?_
  refine W.widen (k := 0) (n := 0) (Nat.le_of_ble_eq_true rfl) (Nat.le_of_ble_eq_true rfl) ?_
  exact W.iret (v := 0) hx hb hr (fun t ht hW => ⟨⟨0, (), rfl, rfl, trivial⟩, hS.F ht⟩) hS.2.2 dX12_memory_44
set_option maxHeartbeats 4000000 in
set_option maxRecDepth 100000 in
theorem tX12_memory_n2 (l : Launch) (dC : Nat → ClassId) (dI : Nat → Nat → Nat) (h0 h1 h2 h3 h4 h5 h6 h7 h8 h9 h10 h11 h12 h13 j0 : Nat) (sz : Nat) (k0 k1 k2 k3 k4 k5 k6 k7 k8 k9 k10 k11 k12 : ClassId) (x0 : Int32) (fs : List Value) (hF : MF fs [.ref j0, .ref h1, .int 0, .int 0, .ref h2, .ref h3, .ref h4, .int 0, .int 0, .int 0, .int (-1), .int (-1), .ref h5, .ref h6, .ref h7, .ref h8, .ref h9, .ref h10, .ref h11, .int 0, .int 0, .int 0, .int 0, .ref h13, .ref h12, .int 0]) : Met l yX12_memory (.code yX12_memory cX12_memory 4 (some .int) :: wP) ({ frames := 0, cells := 0, slots := 0, locals := 0 }) (Pz dC dI [.ref h0, .int 1, .int x0] sz [(h0, .inr (8, fs)), (h1, .inl (k0, 4000, .inl (fun _ => 0))), (h2, .inl (k1, 1203, .inl (fun _ => 0))), (h3, .inl (k2, 1203, .inl (fun _ => 0))), (h4, .inl (k3, 1203, .inl (fun _ => 0))), (h5, .inl (k4, 2, .inl (fun _ => 0))), (h6, .inl (k5, 2, .inl (fun _ => 0))), (h7, .inl (k6, 2, .inl (fun _ => 0))), (h8, .inl (k7, 2, .inl (fun _ => 0))), (h9, .inl (k8, 2, .inl (fun _ => 0))), (h10, .inl (k9, 2, .inl (fun _ => 0))), (h11, .inl (k10, 2, .inl (fun _ => 0))), (h12, .inl (k11, 50, .inl (fun _ => 0))), (h13, .inl (k12, 2, .inl (upd (fun _ => 0) (0 : Int32).toNatClampNeg (vp_nar .boolean 0))))] [(k0, .byte), (k1, .int), (k2, .int), (k3, .int), (k4, .int), (k5, .int), (k6, .int), (k7, .int), (k8, .int), (k9, .int), (k10, .int), (k11, .int), (k12, .boolean)]) (va_Qi (fun (r : Int32) (_ : Unit) => r = 0) (fun (_ : Unit) (_ : State) => True) (va_A [(h0, .inr (8, fs)), (h1, .inl (k0, 4000, .inl (fun _ => 0))), (h2, .inl (k1, 1203, .inl (fun _ => 0))), (h3, .inl (k2, 1203, .inl (fun _ => 0))), (h4, .inl (k3, 1203, .inl (fun _ => 0))), (h5, .inl (k4, 2, .inl (fun _ => 0))), (h6, .inl (k5, 2, .inl (fun _ => 0))), (h7, .inl (k6, 2, .inl (fun _ => 0))), (h8, .inl (k7, 2, .inl (fun _ => 0))), (h9, .inl (k8, 2, .inl (fun _ => 0))), (h10, .inl (k9, 2, .inl (fun _ => 0))), (h11, .inl (k10, 2, .inl (fun _ => 0))), (h12, .inl (k11, 50, .inl (fun _ => 0))), (h13, .inl (k12, 2, .inl (upd (fun _ => 0) (0 : Int32).toNatClampNeg (vp_nar .boolean 0))))] sz)) 0 0 (va_A [(h0, .inr (8, fs)), (h1, .inl (k0, 4000, .inl (fun _ => 0))), (h2, .inl (k1, 1203, .inl (fun _ => 0))), (h3, .inl (k2, 1203, .inl (fun _ => 0))), (h4, .inl (k3, 1203, .inl (fun _ => 0))), (h5, .inl (k4, 2, .inl (fun _ => 0))), (h6, .inl (k5, 2, .inl (fun _ => 0))), (h7, .inl (k6, 2, .inl (fun _ => 0))), (h8, .inl (k7, 2, .inl (fun _ => 0))), (h9, .inl (k8, 2, .inl (fun _ => 0))), (h10, .inl (k9, 2, .inl (fun _ => 0))), (h11, .inl (k10, 2, .inl (fun _ => 0))), (h12, .inl (k11, 50, .inl (fun _ => 0))), (h13, .inl (k12, 2, .inl (upd (fun _ => 0) (0 : Int32).toNatClampNeg (vp_nar .boolean 0))))] sz) := by
  refine Met.ofW (cc := cX12_memory) (maxL := 4) (ret := (some .int)) (by decide) rfl ?_
  intro p e s m args below meth c s₁ B hml hv
  obtain ⟨rfl, hsz, hP, hK, hD0⟩ := hv
  have hx := B.exec
  have hb := B.bytes
  have hr := B.returns
  have hts := atoms_spec (ws := .code yX12_memory cX12_memory 4 (some .int) :: wP) B.pre
  have hw : ∀ w ∈ wP, w.before _ s = true := fun w h => hts w (List.mem_cons_of_mem _ h)
  have hown : s.vm.findClass RX12 = some m.cls := findClass_of_methodNamed B.named
  have hlocks := B.notSynchronized
  subst hsz
  have hD := hD0.self (sz := s.heap.size)
  generalize hAe : va_A [(h0, .inr (8, fs)), (h1, .inl (k0, 4000, .inl (fun _ => 0))), (h2, .inl (k1, 1203, .inl (fun _ => 0))), (h3, .inl (k2, 1203, .inl (fun _ => 0))), (h4, .inl (k3, 1203, .inl (fun _ => 0))), (h5, .inl (k4, 2, .inl (fun _ => 0))), (h6, .inl (k5, 2, .inl (fun _ => 0))), (h7, .inl (k6, 2, .inl (fun _ => 0))), (h8, .inl (k7, 2, .inl (fun _ => 0))), (h9, .inl (k8, 2, .inl (fun _ => 0))), (h10, .inl (k9, 2, .inl (fun _ => 0))), (h11, .inl (k10, 2, .inl (fun _ => 0))), (h12, .inl (k11, 50, .inl (fun _ => 0))), (h13, .inl (k12, 2, .inl (upd (fun _ => 0) (0 : Int32).toNatClampNeg (vp_nar .boolean 0))))] s.heap.size = A at hD ⊢
  have hA : ∀ q : Nat, s.heap.size ≤ q → A q := fun q h => by rw [← hAe]; exact Or.inr h
  have hS : va_S A s.heap s.heap [] := va_S.rf
  have hP : va_P (dC, dI) vC [(h0, .inr (8, fs)), (h1, .inl (k0, 4000, .inl (fun _ => 0))), (h2, .inl (k1, 1203, .inl (fun _ => 0))), (h3, .inl (k2, 1203, .inl (fun _ => 0))), (h4, .inl (k3, 1203, .inl (fun _ => 0))), (h5, .inl (k4, 2, .inl (fun _ => 0))), (h6, .inl (k5, 2, .inl (fun _ => 0))), (h7, .inl (k6, 2, .inl (fun _ => 0))), (h8, .inl (k7, 2, .inl (fun _ => 0))), (h9, .inl (k8, 2, .inl (fun _ => 0))), (h10, .inl (k9, 2, .inl (fun _ => 0))), (h11, .inl (k10, 2, .inl (fun _ => 0))), (h12, .inl (k11, 50, .inl (fun _ => 0))), (h13, .inl (k12, 2, .inl (upd (fun _ => 0) (0 : Int32).toNatClampNeg (vp_nar .boolean 0))))] s.heap := hP
  have hl := lv_entry ([.ref h0, .int 1, .int x0]) (n := 4) (Nat.le_of_ble_eq_true rfl)
  rw [lg_entry_eq]
  generalize (lg_sl ([.ref h0, .int 1, .int x0]) ++ List.replicate (4 - (lg_sl ([.ref h0, .int 1, .int x0])).length) Slot.unset).toArray = ls at hl ⊢
  have hl : lv_has ls 4 [(0, .ref h0), (1, .int 1), (2, .int x0)] := hl
  refine lv_iload_n hx hb dX12_memory_0 rfl (lv_at hl 1 rfl) ?_
  refine lv_if_eq (tgt := 8) hx hb dX12_memory_1 (by decide) (fun c => absurd c (by decide +kernel)) (fun _ => ?_)
  refine lv_iconst (v := 1) hx hb dX12_memory_4 (by decide) ?_
  refine lv_goto (tgt := 9) hx hb dX12_memory_5 (by decide) ?_
  refine lv_istore_n (lv' := [(3, .int 1), (0, .ref h0), (1, .int 1), (2, .int x0)]) hx hb dX12_memory_9 rfl hl (by decide) rfl (fun ls hl => ?_)
  refine lv_aload_n hx hb dX12_memory_10 rfl (lv_at hl 1 rfl) ?_
  refine va_get (D := (dC, dI)) (ci := 8) (v := .ref h13) (C := RX12) (T := TX12) (N := 105) hx hb hw inX12 hown hK hP 0 rfl rfl 94 (by decide) (hw _ mP_121) (fun _ h9 => h9) (hF.get 23 rfl rfl) dX12_memory_11 ?_
  refine lv_iload_n hx hb dX12_memory_14 rfl (lv_at hl 0 rfl) ?_
  refine va_zald hx hb hK hP 13 12 rfl rfl (vin (by decide +kernel)) dX12_memory_15 ?_
  refine lv_nmi (y := 0) (by decide +kernel) ?_
  refine lv_if_eq (tgt := 43) hx hb dX12_memory_16 (by decide) (fun _ => ?_) (fun c => absurd (by decide +kernel) c)
  refine lv_iconst (v := 0) hx hb dX12_memory_43 (by decide) ?_
  refine W.widen (k := 0) (n := 0) (Nat.le_of_ble_eq_true rfl) (Nat.le_of_ble_eq_true rfl) ?_
  exact W.iret (v := 0) hx hb hr (fun t ht hW => ⟨⟨0, (), rfl, rfl, trivial⟩, hS.F ht⟩) hS.2.2 dX12_memory_44
set_option maxHeartbeats 4000000 in
set_option maxRecDepth 100000 in
theorem tX11_memory_n2 (l : Launch) (dC : Nat → ClassId) (dI : Nat → Nat → Nat) (h0 h1 h2 : Nat) (sz : Nat) (k0 k1 : ClassId) (x0 : Int32) : Met l yX11_memory (.code yX11_memory cX11_memory 4 (some .int) :: wP) ({ frames := 0, cells := 0, slots := 0, locals := 0 }) (Pz dC dI [.ref h0, .int 1, .int x0] sz [(h0, .inr (7, [.ref h1, .int 0, .ref h2, .int 0, .int (-1), .null, .null, .null, .null, .null, .null, .null, .null, .null, .null])), (h1, .inl (k0, 4000, .inl (fun _ => 0))), (h2, .inl (k1, 50, .inl (fun _ => 0)))] [(k0, .byte), (k1, .int)]) (va_Qi (fun (r : Int32) (_ : Unit) => r = 0) (fun (_ : Unit) (_ : State) => True) (va_A [(h0, .inr (7, [.ref h1, .int 0, .ref h2, .int 0, .int (-1), .null, .null, .null, .null, .null, .null, .null, .null, .null, .null])), (h1, .inl (k0, 4000, .inl (fun _ => 0))), (h2, .inl (k1, 50, .inl (fun _ => 0)))] sz)) 0 0 (va_A [(h0, .inr (7, [.ref h1, .int 0, .ref h2, .int 0, .int (-1), .null, .null, .null, .null, .null, .null, .null, .null, .null, .null])), (h1, .inl (k0, 4000, .inl (fun _ => 0))), (h2, .inl (k1, 50, .inl (fun _ => 0)))] sz) := by
  refine Met.ofW (cc := cX11_memory) (maxL := 4) (ret := (some .int)) (by decide) rfl ?_
  intro p e s m args below meth c s₁ B hml hv
  obtain ⟨rfl, hsz, hP, hK, hD0⟩ := hv
  have hx := B.exec
  have hb := B.bytes
  have hr := B.returns
  have hts := atoms_spec (ws := .code yX11_memory cX11_memory 4 (some .int) :: wP) B.pre
  have hw : ∀ w ∈ wP, w.before _ s = true := fun w h => hts w (List.mem_cons_of_mem _ h)
  have hown : s.vm.findClass RX11 = some m.cls := findClass_of_methodNamed B.named
  have hlocks := B.notSynchronized
  subst hsz
  have hD := hD0.self (sz := s.heap.size)
  generalize hAe : va_A [(h0, .inr (7, [.ref h1, .int 0, .ref h2, .int 0, .int (-1), .null, .null, .null, .null, .null, .null, .null, .null, .null, .null])), (h1, .inl (k0, 4000, .inl (fun _ => 0))), (h2, .inl (k1, 50, .inl (fun _ => 0)))] s.heap.size = A at hD ⊢
  have hA : ∀ q : Nat, s.heap.size ≤ q → A q := fun q h => by rw [← hAe]; exact Or.inr h
  have hS : va_S A s.heap s.heap [] := va_S.rf
  have hP : va_P (dC, dI) vC [(h0, .inr (7, [.ref h1, .int 0, .ref h2, .int 0, .int (-1), .null, .null, .null, .null, .null, .null, .null, .null, .null, .null])), (h1, .inl (k0, 4000, .inl (fun _ => 0))), (h2, .inl (k1, 50, .inl (fun _ => 0)))] s.heap := hP
  have hl := lv_entry ([.ref h0, .int 1, .int x0]) (n := 4) (Nat.le_of_ble_eq_true rfl)
  rw [lg_entry_eq]
  generalize (lg_sl ([.ref h0, .int 1, .int x0]) ++ List.replicate (4 - (lg_sl ([.ref h0, .int 1, .int x0])).length) Slot.unset).toArray = ls at hl ⊢
  have hl : lv_has ls 4 [(0, .ref h0), (1, .int 1), (2, .int x0)] := hl
  refine lv_iload_n hx hb dX11_memory_0 rfl (lv_at hl 1 rfl) ?_
  refine lv_if_eq (tgt := 11) hx hb dX11_memory_1 (by decide) (fun c => absurd c (by decide +kernel)) (fun _ => ?_)
  refine lv_aload_n hx hb dX11_memory_4 rfl (lv_at hl 0 rfl) ?_
  refine va_get (D := (dC, dI)) (ci := 7) (v := .null) (C := RX11) (T := TX11) (N := 15) hx hb hw inX11 hown hK hP 0 rfl rfl 14 (by decide) (hw _ mP_554) (fun _ h9 => h9) rfl dX11_memory_5 ?_
  refine lv_goto (tgt := 15) hx hb dX11_memory_8 (by decide) ?_
  refine lv_astore_nN (lv' := [(3, .null), (0, .ref h0), (1, .int 1), (2, .int x0)]) hx hb dX11_memory_15 rfl hl (by decide) rfl (fun ls hl => ?_)
  refine lv_aload_nN hx hb dX11_memory_16 rfl (lv_at hl 0 rfl) ?_
  refine lv_ifnonnullN hx hb dX11_memory_17 ?_
  refine lv_iconst (v := 0) hx hb dX11_memory_20 (by decide) ?_
  refine lv_goto (tgt := 29) hx hb dX11_memory_21 (by decide) ?_
  refine W.widen (k := 0) (n := 0) (Nat.le_of_ble_eq_true rfl) (Nat.le_of_ble_eq_true rfl) ?_
  exact W.iret (v := 0) hx hb hr (fun t ht hW => ⟨⟨0, (), rfl, rfl, trivial⟩, hS.F ht⟩) hS.2.2 dX11_memory_29
