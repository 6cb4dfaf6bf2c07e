set_option maxHeartbeats 4000000 in
set_option maxRecDepth 100000 in
theorem tX11_fit_n1 (l : Launch) (dC : Nat → ClassId) (dI : Nat → Nat → Nat) (h0 h1 h2 : Nat) (sz : Nat) (k0 k1 : ClassId) (x0 : Int32) : Met l yX11_fit (.code yX11_fit cX11_fit 3 (some .int) :: wP) ({ frames := 0, cells := 0, slots := 0, locals := 0 }) (Pz dC dI [.ref h0, .int x0] sz [(h0, .inr (7, [.ref h1, .int 0, .ref h2, .int 0, .int (-1), .null, .null, .null, .null, .null, .null, .null, .null, .null, .null])), (h1, .inl (k0, 4000, .inl (fun _ => 0))), (h2, .inl (k1, 50, .inl (fun _ => 0)))] [(k0, .byte), (k1, .int)]) (va_Qi (fun (r : Int32) (_ : Unit) => r = (-1)) (fun (_ : Unit) (_ : State) => True) (va_A [(h0, .inr (7, [.ref h1, .int 0, .ref h2, .int 0, .int (-1), .null, .null, .null, .null, .null, .null, .null, .null, .null, .null])), (h1, .inl (k0, 4000, .inl (fun _ => 0))), (h2, .inl (k1, 50, .inl (fun _ => 0)))] sz)) 0 0 (va_A [(h0, .inr (7, [.ref h1, .int 0, .ref h2, .int 0, .int (-1), .null, .null, .null, .null, .null, .null, .null, .null, .null, .null])), (h1, .inl (k0, 4000, .inl (fun _ => 0))), (h2, .inl (k1, 50, .inl (fun _ => 0)))] sz) := by
  refine Met.ofW (cc := cX11_fit) (maxL := 3) (ret := (some .int)) (by decide) rfl ?_
  intro p e s m args below meth c s₁ B hml hv
  obtain ⟨rfl, hsz, hP, hK, hD0⟩ := hv
  have hx := B.exec
  have hb := B.bytes
  have hr := B.returns
  have hts := atoms_spec (ws := .code yX11_fit cX11_fit 3 (some .int) :: wP) B.pre
  have hw : ∀ w ∈ wP, w.before _ s = true := fun w h => hts w (List.mem_cons_of_mem _ h)
  have hown : s.vm.findClass RX11 = some m.cls := findClass_of_methodNamed B.named
  have hlocks := B.notSynchronized
  subst hsz
  have hD := hD0.self (sz := s.heap.size)
  generalize hAe : va_A [(h0, .inr (7, [.ref h1, .int 0, .ref h2, .int 0, .int (-1), .null, .null, .null, .null, .null, .null, .null, .null, .null, .null])), (h1, .inl (k0, 4000, .inl (fun _ => 0))), (h2, .inl (k1, 50, .inl (fun _ => 0)))] s.heap.size = A at hD ⊢
  have hA : ∀ q : Nat, s.heap.size ≤ q → A q := fun q h => by rw [← hAe]; exact Or.inr h
  have hS : va_S A s.heap s.heap [] := va_S.rf
  have hP : va_P (dC, dI) vC [(h0, .inr (7, [.ref h1, .int 0, .ref h2, .int 0, .int (-1), .null, .null, .null, .null, .null, .null, .null, .null, .null, .null])), (h1, .inl (k0, 4000, .inl (fun _ => 0))), (h2, .inl (k1, 50, .inl (fun _ => 0)))] s.heap := hP
  have hl := lv_entry ([.ref h0, .int x0]) (n := 3) (Nat.le_of_ble_eq_true rfl)
  rw [lg_entry_eq]
  generalize (lg_sl ([.ref h0, .int x0]) ++ List.replicate (3 - (lg_sl ([.ref h0, .int x0])).length) Slot.unset).toArray = ls at hl ⊢
  have hl : lv_has ls 3 [(0, .ref h0), (1, .int x0)] := hl
  refine lv_aload_n hx hb dX11_fit_0 rfl (lv_at hl 0 rfl) ?_
  refine va_get (D := (dC, dI)) (ci := 7) (v := .null) (C := RX11) (T := TX11) (N := 15) hx hb hw inX11 hown hK hP 0 rfl rfl 8 (by decide) (hw _ mP_415) (fun _ h9 => h9) rfl dX11_fit_1 ?_
  refine lv_ifnullN (tgt := 19) hx hb dX11_fit_4 (by decide) ?_
  refine lv_iconst (v := (-1)) hx hb dX11_fit_19 (by decide) ?_
  refine W.widen (k := 0) (n := 0) (Nat.le_of_ble_eq_true rfl) (Nat.le_of_ble_eq_true rfl) ?_
  exact W.iret (v := (-1)) hx hb hr (fun t ht hW => ⟨⟨(-1), (), rfl, rfl, trivial⟩, hS.F ht⟩) hS.2.2 dX11_fit_20
set_option maxHeartbeats 4000000 in
set_option maxRecDepth 100000 in
theorem tX12_fit_n1 (l : Launch) (dC : Nat → ClassId) (dI : Nat → Nat → Nat) (h0 h1 h2 h3 h4 h5 h6 h7 h8 h9 h10 h11 h12 h13 j0 : Nat) (sz : Nat) (k0 k1 k2 k3 k4 k5 k6 k7 k8 k9 k10 k11 k12 : ClassId) (x0 : Int32) (fs : List Value) (hF : MF fs [.ref j0, .ref h1, .int 0, .int 0, .ref h2, .ref h3, .ref h4, .int 0, .int 0, .int 0, .int (-1), .int (-1), .ref h5, .ref h6, .ref h7, .ref h8, .ref h9, .ref h10, .ref h11, .int 0, .int 0, .int 0, .int 0, .ref h13, .ref h12, .int 0]) : Met l yX12_fit (.code yX12_fit cX12_fit 6 (some .int) :: wP) ({ frames := 0, cells := 0, slots := 0, locals := 0 }) (Pz dC dI [.ref h0, .int x0] sz [(h0, .inr (8, fs)), (h1, .inl (k0, 4000, .inl (fun _ => 0))), (h2, .inl (k1, 1203, .inl (fun _ => 0))), (h3, .inl (k2, 1203, .inl (fun _ => 0))), (h4, .inl (k3, 1203, .inl (fun _ => 0))), (h5, .inl (k4, 2, .inl (fun _ => 0))), (h6, .inl (k5, 2, .inl (fun _ => 0))), (h7, .inl (k6, 2, .inl (fun _ => 0))), (h8, .inl (k7, 2, .inl (fun _ => 0))), (h9, .inl (k8, 2, .inl (fun _ => 0))), (h10, .inl (k9, 2, .inl (fun _ => 0))), (h11, .inl (k10, 2, .inl (fun _ => 0))), (h12, .inl (k11, 50, .inl (fun _ => 0))), (h13, .inl (k12, 2, .inl (upd (fun _ => 0) (0 : Int32).toNatClampNeg (vp_nar .boolean 0))))] [(k0, .byte), (k1, .int), (k2, .int), (k3, .int), (k4, .int), (k5, .int), (k6, .int), (k7, .int), (k8, .int), (k9, .int), (k10, .int), (k11, .int), (k12, .boolean)]) (va_Qi (fun (r : Int32) (_ : Unit) => r = (-1)) (fun (_ : Unit) (_ : State) => True) (va_A [(h0, .inr (8, fs)), (h1, .inl (k0, 4000, .inl (fun _ => 0))), (h2, .inl (k1, 1203, .inl (fun _ => 0))), (h3, .inl (k2, 1203, .inl (fun _ => 0))), (h4, .inl (k3, 1203, .inl (fun _ => 0))), (h5, .inl (k4, 2, .inl (fun _ => 0))), (h6, .inl (k5, 2, .inl (fun _ => 0))), (h7, .inl (k6, 2, .inl (fun _ => 0))), (h8, .inl (k7, 2, .inl (fun _ => 0))), (h9, .inl (k8, 2, .inl (fun _ => 0))), (h10, .inl (k9, 2, .inl (fun _ => 0))), (h11, .inl (k10, 2, .inl (fun _ => 0))), (h12, .inl (k11, 50, .inl (fun _ => 0))), (h13, .inl (k12, 2, .inl (upd (fun _ => 0) (0 : Int32).toNatClampNeg (vp_nar .boolean 0))))] sz)) 0 0 (va_A [(h0, .inr (8, fs)), (h1, .inl (k0, 4000, .inl (fun _ => 0))), (h2, .inl (k1, 1203, .inl (fun _ => 0))), (h3, .inl (k2, 1203, .inl (fun _ => 0))), (h4, .inl (k3, 1203, .inl (fun _ => 0))), (h5, .inl (k4, 2, .inl (fun _ => 0))), (h6, .inl (k5, 2, .inl (fun _ => 0))), (h7, .inl (k6, 2, .inl (fun _ => 0))), (h8, .inl (k7, 2, .inl (fun _ => 0))), (h9, .inl (k8, 2, .inl (fun _ => 0))), (h10, .inl (k9, 2, .inl (fun _ => 0))), (h11, .inl (k10, 2, .inl (fun _ => 0))), (h12, .inl (k11, 50, .inl (fun _ => 0))), (h13, .inl (k12, 2, .inl (upd (fun _ => 0) (0 : Int32).toNatClampNeg (vp_nar .boolean 0))))] sz) := by
  refine Met.ofW (cc := cX12_fit) (maxL := 6) (ret := (some .int)) (by decide) rfl ?_
  intro p e s m args below meth c s₁ B hml hv
  obtain ⟨rfl, hsz, hP, hK, hD0⟩ := hv
  have hx := B.exec
  have hb := B.bytes
  have hr := B.returns
  have hts := atoms_spec (ws := .code yX12_fit cX12_fit 6 (some .int) :: wP) B.pre
  have hw : ∀ w ∈ wP, w.before _ s = true := fun w h => hts w (List.mem_cons_of_mem _ h)
  have hown : s.vm.findClass RX12 = some m.cls := findClass_of_methodNamed B.named
  have hlocks := B.notSynchronized
  subst hsz
  have hD := hD0.self (sz := s.heap.size)
  generalize hAe : va_A [(h0, .inr (8, fs)), (h1, .inl (k0, 4000, .inl (fun _ => 0))), (h2, .inl (k1, 1203, .inl (fun _ => 0))), (h3, .inl (k2, 1203, .inl (fun _ => 0))), (h4, .inl (k3, 1203, .inl (fun _ => 0))), (h5, .inl (k4, 2, .inl (fun _ => 0))), (h6, .inl (k5, 2, .inl (fun _ => 0))), (h7, .inl (k6, 2, .inl (fun _ => 0))), (h8, .inl (k7, 2, .inl (fun _ => 0))), (h9, .inl (k8, 2, .inl (fun _ => 0))), (h10, .inl (k9, 2, .inl (fun _ => 0))), (h11, .inl (k10, 2, .inl (fun _ => 0))), (h12, .inl (k11, 50, .inl (fun _ => 0))), (h13, .inl (k12, 2, .inl (upd (fun _ => 0) (0 : Int32).toNatClampNeg (vp_nar .boolean 0))))] s.heap.size = A at hD ⊢
  have hA : ∀ q : Nat, s.heap.size ≤ q → A q := fun q h => by rw [← hAe]; exact Or.inr h
  have hS : va_S A s.heap s.heap [] := va_S.rf
  have hP : va_P (dC, dI) vC [(h0, .inr (8, fs)), (h1, .inl (k0, 4000, .inl (fun _ => 0))), (h2, .inl (k1, 1203, .inl (fun _ => 0))), (h3, .inl (k2, 1203, .inl (fun _ => 0))), (h4, .inl (k3, 1203, .inl (fun _ => 0))), (h5, .inl (k4, 2, .inl (fun _ => 0))), (h6, .inl (k5, 2, .inl (fun _ => 0))), (h7, .inl (k6, 2, .inl (fun _ => 0))), (h8, .inl (k7, 2, .inl (fun _ => 0))), (h9, .inl (k8, 2, .inl (fun _ => 0))), (h10, .inl (k9, 2, .inl (fun _ => 0))), (h11, .inl (k10, 2, .inl (fun _ => 0))), (h12, .inl (k11, 50, .inl (fun _ => 0))), (h13, .inl (k12, 2, .inl (upd (fun _ => 0) (0 : Int32).toNatClampNeg (vp_nar .boolean 0))))] s.heap := hP
  have hl := lv_entry ([.ref h0, .int x0]) (n := 6) (Nat.le_of_ble_eq_true rfl)
  rw [lg_entry_eq]
  generalize (lg_sl ([.ref h0, .int x0]) ++ List.replicate (6 - (lg_sl ([.ref h0, .int x0])).length) Slot.unset).toArray = ls at hl ⊢
  have hl : lv_has ls 6 [(0, .ref h0), (1, .int x0)] := hl
  refine lv_aload_n hx hb dX12_fit_0 rfl (lv_at hl 0 rfl) ?_
  refine va_get (D := (dC, dI)) (ci := 8) (v := .int 0) (C := RX12) (T := TX12) (N := 105) hx hb hw inX12 hown hK hP 0 rfl rfl 46 (by decide) (hw _ mP_402) (fun _ h9 => h9) (hF.get 20 rfl rfl) dX12_fit_1 ?_
  refine lv_if_eq (tgt := 19) hx hb dX12_fit_4 (by decide) (fun _ => ?_) (fun c => absurd (by decide +kernel) c)
  refine lv_iconst (v := (-1)) hx hb dX12_fit_19 (by decide) ?_
  refine W.widen (k := 0) (n := 0) (Nat.le_of_ble_eq_true rfl) (Nat.le_of_ble_eq_true rfl) ?_
  exact W.iret (v := (-1)) hx hb hr (fun t ht hW => ⟨⟨(-1), (), rfl, rfl, trivial⟩, hS.F ht⟩) hS.2.2 dX12_fit_20
set_option maxHeartbeats 4000000 in
set_option maxRecDepth 100000 in
theorem tX11_colour_n1 (l : Launch) (dC : Nat → ClassId) (dI : Nat → Nat → Nat) (h0 h1 h2 : Nat) (sz : Nat) (k0 k1 : ClassId) (x0 : Int32) : Met l yX11_colour (.code yX11_colour cX11_colour 2 (some .int) :: wP) ({ frames := 0, cells := 0, slots := 0, locals := 0 }) (Pz dC dI [.ref h0, .int x0] sz [(h0, .inr (7, [.ref h1, .int 0, .ref h2, .int 0, .int (-1), .null, .null, .null, .null, .null, .null, .null, .null, .null, .null])), (h1, .inl (k0, 4000, .inl (fun _ => 0))), (h2, .inl (k1, 50, .inl (fun _ => 0)))] [(k0, .byte), (k1, .int)]) (va_Qi (fun (r : Int32) (_ : Unit) => r = (-1)) (fun (_ : Unit) (_ : State) => True) (va_A [(h0, .inr (7, [.ref h1, .int 0, .ref h2, .int 0, .int (-1), .null, .null, .null, .null, .null, .null, .null, .null, .null, .null])), (h1, .inl (k0, 4000, .inl (fun _ => 0))), (h2, .inl (k1, 50, .inl (fun _ => 0)))] sz)) 0 0 (va_A [(h0, .inr (7, [.ref h1, .int 0, .ref h2, .int 0, .int (-1), .null, .null, .null, .null, .null, .null, .null, .null, .null, .null])), (h1, .inl (k0, 4000, .inl (fun _ => 0))), (h2, .inl (k1, 50, .inl (fun _ => 0)))] sz) := by
  refine Met.ofW (cc := cX11_colour) (maxL := 2) (ret := (some .int)) (by decide) rfl ?_
  intro p e s m args below meth c s₁ B hml hv
  obtain ⟨rfl, hsz, hP, hK, hD0⟩ := hv
  have hx := B.exec
  have hb := B.bytes
  have hr := B.returns
  have hts := atoms_spec (ws := .code yX11_colour cX11_colour 2 (some .int) :: wP) B.pre
  have hw : ∀ w ∈ wP, w.before _ s = true := fun w h => hts w (List.mem_cons_of_mem _ h)
  have hown : s.vm.findClass RX11 = some m.cls := findClass_of_methodNamed B.named
  have hlocks := B.notSynchronized
  subst hsz
  have hD := hD0.self (sz := s.heap.size)
  generalize hAe : va_A [(h0, .inr (7, [.ref h1, .int 0, .ref h2, .int 0, .int (-1), .null, .null, .null, .null, .null, .null, .null, .null, .null, .null])), (h1, .inl (k0, 4000, .inl (fun _ => 0))), (h2, .inl (k1, 50, .inl (fun _ => 0)))] s.heap.size = A at hD ⊢
  have hA : ∀ q : Nat, s.heap.size ≤ q → A q := fun q h => by rw [← hAe]; exact Or.inr h
  have hS : va_S A s.heap s.heap [] := va_S.rf
  have hP : va_P (dC, dI) vC [(h0, .inr (7, [.ref h1, .int 0, .ref h2, .int 0, .int (-1), .null, .null, .null, .null, .null, .null, .null, .null, .null, .null])), (h1, .inl (k0, 4000, .inl (fun _ => 0))), (h2, .inl (k1, 50, .inl (fun _ => 0)))] s.heap := hP
  have hl := lv_entry ([.ref h0, .int x0]) (n := 2) (Nat.le_of_ble_eq_true rfl)
  rw [lg_entry_eq]
  generalize (lg_sl ([.ref h0, .int x0]) ++ List.replicate (2 - (lg_sl ([.ref h0, .int x0])).length) Slot.unset).toArray = ls at hl ⊢
  have hl : lv_has ls 2 [(0, .ref h0), (1, .int x0)] := hl
  refine lv_aload_n hx hb dX11_colour_0 rfl (lv_at hl 0 rfl) ?_
  refine va_get (D := (dC, dI)) (ci := 7) (v := .null) (C := RX11) (T := TX11) (N := 15) hx hb hw inX11 hown hK hP 0 rfl rfl 8 (by decide) (hw _ mP_415) (fun _ h9 => h9) rfl dX11_colour_1 ?_
  refine lv_ifnullN (tgt := 16) hx hb dX11_colour_4 (by decide) ?_
  refine lv_iconst (v := (-1)) hx hb dX11_colour_16 (by decide) ?_
  refine W.widen (k := 0) (n := 0) (Nat.le_of_ble_eq_true rfl) (Nat.le_of_ble_eq_true rfl) ?_
  exact W.iret (v := (-1)) hx hb hr (fun t ht hW => ⟨⟨(-1), (), rfl, rfl, trivial⟩, hS.F ht⟩) hS.2.2 dX11_colour_17
set_option maxHeartbeats 4000000 in
set_option maxRecDepth 100000 in
theorem tX12_colour_n1 (l : Launch) (dC : Nat → ClassId) (dI : Nat → Nat → Nat) (h0 h1 h2 h3 h4 h5 h6 h7 h8 h9 h10 h11 h12 h13 j0 : Nat) (sz : Nat) (k0 k1 k2 k3 k4 k5 k6 k7 k8 k9 k10 k11 k12 : ClassId) (x0 : Int32) (fs : List Value) (hF : MF fs [.ref j0, .ref h1, .int 0, .int 0, .ref h2, .ref h3, .ref h4, .int 0, .int 0, .int 0, .int (-1), .int (-1), .ref h5, .ref h6, .ref h7, .ref h8, .ref h9, .ref h10, .ref h11, .int 0, .int 0, .int 0, .int 0, .ref h13, .ref h12, .int 0]) : Met l yX12_colour (.code yX12_colour cX12_colour 6 (some .int) :: wP) ({ frames := 0, cells := 0, slots := 0, locals := 0 }) (Pz dC dI [.ref h0, .int x0] sz [(h0, .inr (8, fs)), (h1, .inl (k0, 4000, .inl (fun _ => 0))), (h2, .inl (k1, 1203, .inl (fun _ => 0))), (h3, .inl (k2, 1203, .inl (fun _ => 0))), (h4, .inl (k3, 1203, .inl (fun _ => 0))), (h5, .inl (k4, 2, .inl (fun _ => 0))), (h6, .inl (k5, 2, .inl (fun _ => 0))), (h7, .inl (k6, 2, .inl (fun _ => 0))), (h8, .inl (k7, 2, .inl (fun _ => 0))), (h9, .inl (k8, 2, .inl (fun _ => 0))), (h10, .inl (k9, 2, .inl (fun _ => 0))), (h11, .inl (k10, 2, .inl (fun _ => 0))), (h12, .inl (k11, 50, .inl (fun _ => 0))), (h13, .inl (k12, 2, .inl (upd (fun _ => 0) (0 : Int32).toNatClampNeg (vp_nar .boolean 0))))] [(k0, .byte), (k1, .int), (k2, .int), (k3, .int), (k4, .int), (k5, .int), (k6, .int), (k7, .int), (k8, .int), (k9, .int), (k10, .int), (k11, .int), (k12, .boolean)]) (va_Qi (fun (r : Int32) (_ : Unit) => r = (-1)) (fun (_ : Unit) (_ : State) => True) (va_A [(h0, .inr (8, fs)), (h1, .inl (k0, 4000, .inl (fun _ => 0))), (h2, .inl (k1, 1203, .inl (fun _ => 0))), (h3, .inl (k2, 1203, .inl (fun _ => 0))), (h4, .inl (k3, 1203, .inl (fun _ => 0))), (h5, .inl (k4, 2, .inl (fun _ => 0))), (h6, .inl (k5, 2, .inl (fun _ => 0))), (h7, .inl (k6, 2, .inl (fun _ => 0))), (h8, .inl (k7, 2, .inl (fun _ => 0))), (h9, .inl (k8, 2, .inl (fun _ => 0))), (h10, .inl (k9, 2, .inl (fun _ => 0))), (h11, .inl (k10, 2, .inl (fun _ => 0))), (h12, .inl (k11, 50, .inl (fun _ => 0))), (h13, .inl (k12, 2, .inl (upd (fun _ => 0) (0 : Int32).toNatClampNeg (vp_nar .boolean 0))))] sz)) 0 0 (va_A [(h0, .inr (8, fs)), (h1, .inl (k0, 4000, .inl (fun _ => 0))), (h2, .inl (k1, 1203, .inl (fun _ => 0))), (h3, .inl (k2, 1203, .inl (fun _ => 0))), (h4, .inl (k3, 1203, .inl (fun _ => 0))), (h5, .inl (k4, 2, .inl (fun _ => 0))), (h6, .inl (k5, 2, .inl (fun _ => 0))), (h7, .inl (k6, 2, .inl (fun _ => 0))), (h8, .inl (k7, 2, .inl (fun _ => 0))), (h9, .inl (k8, 2, .inl (fun _ => 0))), (h10, .inl (k9, 2, .inl (fun _ => 0))), (h11, .inl (k10, 2, .inl (fun _ => 0))), (h12, .inl (k11, 50, .inl (fun _ => 0))), (h13, .inl (k12, 2, .inl (upd (fun _ => 0) (0 : Int32).toNatClampNeg (vp_nar .boolean 0))))] sz) := by
  refine Met.ofW (cc := cX12_colour) (maxL := 6) (ret := (some .int)) (by decide) rfl ?_
  intro p e s m args below meth c s₁ B hml hv
  obtain ⟨rfl, hsz, hP, hK, hD0⟩ := hv
  have hx := B.exec
  have hb := B.bytes
  have hr := B.returns
  have hts := atoms_spec (ws := .code yX12_colour cX12_colour 6 (some .int) :: wP) B.pre
  have hw : ∀ w ∈ wP, w.before _ s = true := fun w h => hts w (List.mem_cons_of_mem _ h)
  have hown : s.vm.findClass RX12 = some m.cls := findClass_of_methodNamed B.named
  have hlocks := B.notSynchronized
  subst hsz
  have hD := hD0.self (sz := s.heap.size)
  generalize hAe : va_A [(h0, .inr (8, fs)), (h1, .inl (k0, 4000, .inl (fun _ => 0))), (h2, .inl (k1, 1203, .inl (fun _ => 0))), (h3, .inl (k2, 1203, .inl (fun _ => 0))), (h4, .inl (k3, 1203, .inl (fun _ => 0))), (h5, .inl (k4, 2, .inl (fun _ => 0))), (h6, .inl (k5, 2, .inl (fun _ => 0))), (h7, .inl (k6, 2, .inl (fun _ => 0))), (h8, .inl (k7, 2, .inl (fun _ => 0))), (h9, .inl (k8, 2, .inl (fun _ => 0))), (h10, .inl (k9, 2, .inl (fun _ => 0))), (h11, .inl (k10, 2, .inl (fun _ => 0))), (h12, .inl (k11, 50, .inl (fun _ => 0))), (h13, .inl (k12, 2, .inl (upd (fun _ => 0) (0 : Int32).toNatClampNeg (vp_nar .boolean 0))))] s.heap.size = A at hD ⊢
  have hA : ∀ q : Nat, s.heap.size ≤ q → A q := fun q h => by rw [← hAe]; exact Or.inr h
  have hS : va_S A s.heap s.heap [] := va_S.rf
  have hP : va_P (dC, dI) vC [(h0, .inr (8, fs)), (h1, .inl (k0, 4000, .inl (fun _ => 0))), (h2, .inl (k1, 1203, .inl (fun _ => 0))), (h3, .inl (k2, 1203, .inl (fun _ => 0))), (h4, .inl (k3, 1203, .inl (fun _ => 0))), (h5, .inl (k4, 2, .inl (fun _ => 0))), (h6, .inl (k5, 2, .inl (fun _ => 0))), (h7, .inl (k6, 2, .inl (fun _ => 0))), (h8, .inl (k7, 2, .inl (fun _ => 0))), (h9, .inl (k8, 2, .inl (fun _ => 0))), (h10, .inl (k9, 2, .inl (fun _ => 0))), (h11, .inl (k10, 2, .inl (fun _ => 0))), (h12, .inl (k11, 50, .inl (fun _ => 0))), (h13, .inl (k12, 2, .inl (upd (fun _ => 0) (0 : Int32).toNatClampNeg (vp_nar .boolean 0))))] s.heap := hP
  have hl := lv_entry ([.ref h0, .int x0]) (n := 6) (Nat.le_of_ble_eq_true rfl)
  rw [lg_entry_eq]
  generalize (lg_sl ([.ref h0, .int x0]) ++ List.replicate (6 - (lg_sl ([.ref h0, .int x0])).length) Slot.unset).toArray = ls at hl ⊢
  have hl : lv_has ls 6 [(0, .ref h0), (1, .int x0)] := hl
  refine lv_aload_n hx hb dX12_colour_0 rfl (lv_at hl 0 rfl) ?_
  refine va_get (D := (dC, dI)) (ci := 8) (v := .int 0) (C := RX12) (T := TX12) (N := 105) hx hb hw inX12 hown hK hP 0 rfl rfl 46 (by decide) (hw _ mP_402) (fun _ h9 => h9) (hF.get 20 rfl rfl) dX12_colour_1 ?_
  refine lv_if_eq (tgt := 16) hx hb dX12_colour_4 (by decide) (fun _ => ?_) (fun c => absurd (by decide +kernel) c)
  refine lv_iconst (v := (-1)) hx hb dX12_colour_16 (by decide) ?_
  refine W.widen (k := 0) (n := 0) (Nat.le_of_ble_eq_true rfl) (Nat.le_of_ble_eq_true rfl) ?_
  exact W.iret (v := (-1)) hx hb hr (fun t ht hW => ⟨⟨(-1), (), rfl, rfl, trivial⟩, hS.F ht⟩) hS.2.2 dX12_colour_17
set_option maxHeartbeats 4000000 in
set_option maxRecDepth 100000 in
theorem tX11_lower_n1 (l : Launch) (dC : Nat → ClassId) (dI : Nat → Nat → Nat) (h0 h1 h2 : Nat) (sz : Nat) (k0 k1 : ClassId) : Met l yX11_lower (.code yX11_lower cX11_lower 1 (some .int) :: wP) ({ frames := 0, cells := 0, slots := 0, locals := 0 }) (Pz dC dI [.ref h0] sz [(h0, .inr (7, [.ref h1, .int 0, .ref h2, .int 0, .int (-1), .null, .null, .null, .null, .null, .null, .null, .null, .null, .null])), (h1, .inl (k0, 4000, .inl (fun _ => 0))), (h2, .inl (k1, 50, .inl (fun _ => 0)))] [(k0, .byte), (k1, .int)]) (va_Qi (fun (r : Int32) (_ : Unit) => r = (-1)) (fun (_ : Unit) (_ : State) => True) (va_A [(h0, .inr (7, [.ref h1, .int 0, .ref h2, .int 0, .int (-1), .null, .null, .null, .null, .null, .null, .null, .null, .null, .null])), (h1, .inl (k0, 4000, .inl (fun _ => 0))), (h2, .inl (k1, 50, .inl (fun _ => 0)))] sz)) 0 0 (va_A [(h0, .inr (7, [.ref h1, .int 0, .ref h2, .int 0, .int (-1), .null, .null, .null, .null, .null, .null, .null, .null, .null, .null])), (h1, .inl (k0, 4000, .inl (fun _ => 0))), (h2, .inl (k1, 50, .inl (fun _ => 0)))] sz) := by
  refine Met.ofW (cc := cX11_lower) (maxL := 1) (ret := (some .int)) (by decide) rfl ?_
  intro p e s m args below meth c s₁ B hml hv
  obtain ⟨rfl, hsz, hP, hK, hD0⟩ := hv
  have hx := B.exec
  have hb := B.bytes
  have hr := B.returns
  have hts := atoms_spec (ws := .code yX11_lower cX11_lower 1 (some .int) :: wP) B.pre
  have hw : ∀ w ∈ wP, w.before _ s = true := fun w h => hts w (List.mem_cons_of_mem _ h)
  have hown : s.vm.findClass RX11 = some m.cls := findClass_of_methodNamed B.named
  have hlocks := B.notSynchronized
  subst hsz
  have hD := hD0.self (sz := s.heap.size)
  generalize hAe : va_A [(h0, .inr (7, [.ref h1, .int 0, .ref h2, .int 0, .int (-1), .null, .null, .null, .null, .null, .null, .null, .null, .null, .null])), (h1, .inl (k0, 4000, .inl (fun _ => 0))), (h2, .inl (k1, 50, .inl (fun _ => 0)))] s.heap.size = A at hD ⊢
  have hA : ∀ q : Nat, s.heap.size ≤ q → A q := fun q h => by rw [← hAe]; exact Or.inr h
  have hS : va_S A s.heap s.heap [] := va_S.rf
  have hP : va_P (dC, dI) vC [(h0, .inr (7, [.ref h1, .int 0, .ref h2, .int 0, .int (-1), .null, .null, .null, .null, .null, .null, .null, .null, .null, .null])), (h1, .inl (k0, 4000, .inl (fun _ => 0))), (h2, .inl (k1, 50, .inl (fun _ => 0)))] s.heap := hP
  have hl := lv_entry ([.ref h0]) (n := 1) (Nat.le_of_ble_eq_true rfl)
  rw [lg_entry_eq]
  generalize (lg_sl ([.ref h0]) ++ List.replicate (1 - (lg_sl ([.ref h0])).length) Slot.unset).toArray = ls at hl ⊢
  have hl : lv_has ls 1 [(0, .ref h0)] := hl
  refine lv_aload_n hx hb dX11_lower_0 rfl (lv_at hl 0 rfl) ?_
  refine va_get (D := (dC, dI)) (ci := 7) (v := .null) (C := RX11) (T := TX11) (N := 15) hx hb hw inX11 hown hK hP 0 rfl rfl 8 (by decide) (hw _ mP_415) (fun _ h9 => h9) rfl dX11_lower_1 ?_
  refine lv_ifnullN (tgt := 17) hx hb dX11_lower_4 (by decide) ?_
  refine lv_iconst (v := (-1)) hx hb dX11_lower_17 (by decide) ?_
  refine W.widen (k := 0) (n := 0) (Nat.le_of_ble_eq_true rfl) (Nat.le_of_ble_eq_true rfl) ?_
  exact W.iret (v := (-1)) hx hb hr (fun t ht hW => ⟨⟨(-1), (), rfl, rfl, trivial⟩, hS.F ht⟩) hS.2.2 dX11_lower_18
set_option maxHeartbeats 4000000 in
set_option maxRecDepth 100000 in
theorem tX12_lower_n1 (l : Launch) (dC : Nat → ClassId) (dI : Nat → Nat → Nat) (h0 h1 h2 h3 h4 h5 h6 h7 h8 h9 h10 h11 h12 h13 j0 : Nat) (sz : Nat) (k0 k1 k2 k3 k4 k5 k6 k7 k8 k9 k10 k11 k12 : ClassId) (fs : List Value) (hF : MF fs [.ref j0, .ref h1, .int 0, .int 0, .ref h2, .ref h3, .ref h4, .int 0, .int 0, .int 0, .int (-1), .int (-1), .ref h5, .ref h6, .ref h7, .ref h8, .ref h9, .ref h10, .ref h11, .int 0, .int 0, .int 0, .int 0, .ref h13, .ref h12, .int 0]) : Met l yX12_lower (.code yX12_lower cX12_lower 4 (some .int) :: wP) ({ frames := 0, cells := 0, slots := 0, locals := 0 }) (Pz dC dI [.ref h0] sz [(h0, .inr (8, fs)), (h1, .inl (k0, 4000, .inl (fun _ => 0))), (h2, .inl (k1, 1203, .inl (fun _ => 0))), (h3, .inl (k2, 1203, .inl (fun _ => 0))), (h4, .inl (k3, 1203, .inl (fun _ => 0))), (h5, .inl (k4, 2, .inl (fun _ => 0))), (h6, .inl (k5, 2, .inl (fun _ => 0))), (h7, .inl (k6, 2, .inl (fun _ => 0))), (h8, .inl (k7, 2, .inl (fun _ => 0))), (h9, .inl (k8, 2, .inl (fun _ => 0))), (h10, .inl (k9, 2, .inl (fun _ => 0))), (h11, .inl (k10, 2, .inl (fun _ => 0))), (h12, .inl (k11, 50, .inl (fun _ => 0))), (h13, .inl (k12, 2, .inl (upd (fun _ => 0) (0 : Int32).toNatClampNeg (vp_nar .boolean 0))))] [(k0, .byte), (k1, .int), (k2, .int), (k3, .int), (k4, .int), (k5, .int), (k6, .int), (k7, .int), (k8, .int), (k9, .int), (k10, .int), (k11, .int), (k12, .boolean)]) (va_Qi (fun (r : Int32) (_ : Unit) => r = (-1)) (fun (_ : Unit) (_ : State) => True) (va_A [(h0, .inr (8, fs)), (h1, .inl (k0, 4000, .inl (fun _ => 0))), (h2, .inl (k1, 1203, .inl (fun _ => 0))), (h3, .inl (k2, 1203, .inl (fun _ => 0))), (h4, .inl (k3, 1203, .inl (fun _ => 0))), (h5, .inl (k4, 2, .inl (fun _ => 0))), (h6, .inl (k5, 2, .inl (fun _ => 0))), (h7, .inl (k6, 2, .inl (fun _ => 0))), (h8, .inl (k7, 2, .inl (fun _ => 0))), (h9, .inl (k8, 2, .inl (fun _ => 0))), (h10, .inl (k9, 2, .inl (fun _ => 0))), (h11, .inl (k10, 2, .inl (fun _ => 0))), (h12, .inl (k11, 50, .inl (fun _ => 0))), (h13, .inl (k12, 2, .inl (upd (fun _ => 0) (0 : Int32).toNatClampNeg (vp_nar .boolean 0))))] sz)) 0 0 (va_A [(h0, .inr (8, fs)), (h1, .inl (k0, 4000, .inl (fun _ => 0))), (h2, .inl (k1, 1203, .inl (fun _ => 0))), (h3, .inl (k2, 1203, .inl (fun _ => 0))), (h4, .inl (k3, 1203, .inl (fun _ => 0))), (h5, .inl (k4, 2, .inl (fun _ => 0))), (h6, .inl (k5, 2, .inl (fun _ => 0))), (h7, .inl (k6, 2, .inl (fun _ => 0))), (h8, .inl (k7, 2, .inl (fun _ => 0))), (h9, .inl (k8, 2, .inl (fun _ => 0))), (h10, .inl (k9, 2, .inl (fun _ => 0))), (h11, .inl (k10, 2, .inl (fun _ => 0))), (h12, .inl (k11, 50, .inl (fun _ => 0))), (h13, .inl (k12, 2, .inl (upd (fun _ => 0) (0 : Int32).toNatClampNeg (vp_nar .boolean 0))))] sz) := by
  refine Met.ofW (cc := cX12_lower) (maxL := 4) (ret := (some .int)) (by decide) rfl ?_
  intro p e s m args below meth c s₁ B hml hv
  obtain ⟨rfl, hsz, hP, hK, hD0⟩ := hv
  have hx := B.exec
  have hb := B.bytes
  have hr := B.returns
  have hts := atoms_spec (ws := .code yX12_lower cX12_lower 4 (some .int) :: wP) B.pre
  have hw : ∀ w ∈ wP, w.before _ s = true := fun w h => hts w (List.mem_cons_of_mem _ h)
  have hown : s.vm.findClass RX12 = some m.cls := findClass_of_methodNamed B.named
  have hlocks := B.notSynchronized
  subst hsz
  have hD := hD0.self (sz := s.heap.size)
  generalize hAe : va_A [(h0, .inr (8, fs)), (h1, .inl (k0, 4000, .inl (fun _ => 0))), (h2, .inl (k1, 1203, .inl (fun _ => 0))), (h3, .inl (k2, 1203, .inl (fun _ => 0))), (h4, .inl (k3, 1203, .inl (fun _ => 0))), (h5, .inl (k4, 2, .inl (fun _ => 0))), (h6, .inl (k5, 2, .inl (fun _ => 0))), (h7, .inl (k6, 2, .inl (fun _ => 0))), (h8, .inl (k7, 2, .inl (fun _ => 0))), (h9, .inl (k8, 2, .inl (fun _ => 0))), (h10, .inl (k9, 2, .inl (fun _ => 0))), (h11, .inl (k10, 2, .inl (fun _ => 0))), (h12, .inl (k11, 50, .inl (fun _ => 0))), (h13, .inl (k12, 2, .inl (upd (fun _ => 0) (0 : Int32).toNatClampNeg (vp_nar .boolean 0))))] s.heap.size = A at hD ⊢
  have hA : ∀ q : Nat, s.heap.size ≤ q → A q := fun q h => by rw [← hAe]; exact Or.inr h
  have hS : va_S A s.heap s.heap [] := va_S.rf
  have hP : va_P (dC, dI) vC [(h0, .inr (8, fs)), (h1, .inl (k0, 4000, .inl (fun _ => 0))), (h2, .inl (k1, 1203, .inl (fun _ => 0))), (h3, .inl (k2, 1203, .inl (fun _ => 0))), (h4, .inl (k3, 1203, .inl (fun _ => 0))), (h5, .inl (k4, 2, .inl (fun _ => 0))), (h6, .inl (k5, 2, .inl (fun _ => 0))), (h7, .inl (k6, 2, .inl (fun _ => 0))), (h8, .inl (k7, 2, .inl (fun _ => 0))), (h9, .inl (k8, 2, .inl (fun _ => 0))), (h10, .inl (k9, 2, .inl (fun _ => 0))), (h11, .inl (k10, 2, .inl (fun _ => 0))), (h12, .inl (k11, 50, .inl (fun _ => 0))), (h13, .inl (k12, 2, .inl (upd (fun _ => 0) (0 : Int32).toNatClampNeg (vp_nar .boolean 0))))] s.heap := hP
  have hl := lv_entry ([.ref h0]) (n := 4) (Nat.le_of_ble_eq_true rfl)
  rw [lg_entry_eq]
  generalize (lg_sl ([.ref h0]) ++ List.replicate (4 - (lg_sl ([.ref h0])).length) Slot.unset).toArray = ls at hl ⊢
  have hl : lv_has ls 4 [(0, .ref h0)] := hl
  refine lv_aload_n hx hb dX12_lower_0 rfl (lv_at hl 0 rfl) ?_
  refine va_get (D := (dC, dI)) (ci := 8) (v := .int 0) (C := RX12) (T := TX12) (N := 105) hx hb hw inX12 hown hK hP 0 rfl rfl 75 (by decide) (hw _ mP_504) (fun _ h9 => h9) (hF.get 21 rfl rfl) dX12_lower_1 ?_
  refine lv_if_ne (tgt := 9) hx hb dX12_lower_4 (by decide) (fun c => absurd (by decide +kernel) c) (fun _ => ?_)
  refine lv_iconst (v := (-1)) hx hb dX12_lower_7 (by decide) ?_
  refine W.widen (k := 0) (n := 0) (Nat.le_of_ble_eq_true rfl) (Nat.le_of_ble_eq_true rfl) ?_
  exact W.iret (v := (-1)) hx hb hr (fun t ht hW => ⟨⟨(-1), (), rfl, rfl, trivial⟩, hS.F ht⟩) hS.2.2 dX12_lower_8
set_option maxHeartbeats 4000000 in
set_option maxRecDepth 100000 in
theorem tX11_code_n1 (l : Launch) (dC : Nat → ClassId) (dI : Nat → Nat → Nat) (h0 h1 h2 : Nat) (sz : Nat) (k0 k1 : ClassId) (x0 x1 : Int32) : Met l yX11_code (.code yX11_code cX11_code 3 (some .int) :: wP) ({ frames := 0, cells := 0, slots := 0, locals := 0 }) (Pz dC dI [.ref h0, .int x0, .int x1] sz [(h0, .inr (7, [.ref h1, .int 0, .ref h2, .int 0, .int (-1), .null, .null, .null, .null, .null, .null, .null, .null, .null, .null])), (h1, .inl (k0, 4000, .inl (fun _ => 0))), (h2, .inl (k1, 50, .inl (fun _ => 0)))] [(k0, .byte), (k1, .int)]) (va_Qi (fun (r : Int32) (_ : Unit) => r = (-1)) (fun (_ : Unit) (_ : State) => True) (va_A [(h0, .inr (7, [.ref h1, .int 0, .ref h2, .int 0, .int (-1), .null, .null, .null, .null, .null, .null, .null, .null, .null, .null])), (h1, .inl (k0, 4000, .inl (fun _ => 0))), (h2, .inl (k1, 50, .inl (fun _ => 0)))] sz)) 0 0 (va_A [(h0, .inr (7, [.ref h1, .int 0, .ref h2, .int 0, .int (-1), .null, .null, .null, .null, .null, .null, .null, .null, .null, .null])), (h1, .inl (k0, 4000, .inl (fun _ => 0))), (h2, .inl (k1, 50, .inl (fun _ => 0)))] sz) := by
  refine Met.ofW (cc := cX11_code) (maxL := 3) (ret := (some .int)) (by decide) rfl ?_
  intro p e s m args below meth c s₁ B hml hv
  obtain ⟨rfl, hsz, hP, hK, hD0⟩ := hv
  have hx := B.exec
  have hb := B.bytes
  have hr := B.returns
  have hts := atoms_spec (ws := .code yX11_code cX11_code 3 (some .int) :: wP) B.pre
  have hw : ∀ w ∈ wP, w.before _ s = true := fun w h => hts w (List.mem_cons_of_mem _ h)
  have hown : s.vm.findClass RX11 = some m.cls := findClass_of_methodNamed B.named
  have hlocks := B.notSynchronized
  subst hsz
  have hD := hD0.self (sz := s.heap.size)
  generalize hAe : va_A [(h0, .inr (7, [.ref h1, .int 0, .ref h2, .int 0, .int (-1), .null, .null, .null, .null, .null, .null, .null, .null, .null, .null])), (h1, .inl (k0, 4000, .inl (fun _ => 0))), (h2, .inl (k1, 50, .inl (fun _ => 0)))] s.heap.size = A at hD ⊢
  have hA : ∀ q : Nat, s.heap.size ≤ q → A q := fun q h => by rw [← hAe]; exact Or.inr h
  have hS : va_S A s.heap s.heap [] := va_S.rf
  have hP : va_P (dC, dI) vC [(h0, .inr (7, [.ref h1, .int 0, .ref h2, .int 0, .int (-1), .null, .null, .null, .null, .null, .null, .null, .null, .null, .null])), (h1, .inl (k0, 4000, .inl (fun _ => 0))), (h2, .inl (k1, 50, .inl (fun _ => 0)))] s.heap := hP
  have hl := lv_entry ([.ref h0, .int x0, .int x1]) (n := 3) (Nat.le_of_ble_eq_true rfl)
  rw [lg_entry_eq]
  generalize (lg_sl ([.ref h0, .int x0, .int x1]) ++ List.replicate (3 - (lg_sl ([.ref h0, .int x0, .int x1])).length) Slot.unset).toArray = ls at hl ⊢
  have hl : lv_has ls 3 [(0, .ref h0), (1, .int x0), (2, .int x1)] := hl
  refine lv_aload_n hx hb dX11_code_0 rfl (lv_at hl 0 rfl) ?_
  refine va_get (D := (dC, dI)) (ci := 7) (v := .null) (C := RX11) (T := TX11) (N := 15) hx hb hw inX11 hown hK hP 0 rfl rfl 12 (by decide) (hw _ mP_509) (fun _ h9 => h9) rfl dX11_code_1 ?_
  refine lv_ifnonnullN hx hb dX11_code_4 ?_
  refine lv_iconst (v := (-1)) hx hb dX11_code_7 (by decide) ?_
  refine lv_goto (tgt := 20) hx hb dX11_code_8 (by decide) ?_
  refine W.widen (k := 0) (n := 0) (Nat.le_of_ble_eq_true rfl) (Nat.le_of_ble_eq_true rfl) ?_
  exact W.iret (v := (-1)) hx hb hr (fun t ht hW => ⟨⟨(-1), (), rfl, rfl, trivial⟩, hS.F ht⟩) hS.2.2 dX11_code_20
set_option maxHeartbeats 4000000 in
set_option maxRecDepth 100000 in
theorem tX12_code_n1 (l : Launch) (dC : Nat → ClassId) (dI : Nat → Nat → Nat) (h0 h1 h2 h3 h4 h5 h6 h7 h8 h9 h10 h11 h12 h13 j0 : Nat) (sz : Nat) (k0 k1 k2 k3 k4 k5 k6 k7 k8 k9 k10 k11 k12 : ClassId) (x0 x1 : Int32) (fs : List Value) (hF : MF fs [.ref j0, .ref h1, .int 0, .int 0, .ref h2, .ref h3, .ref h4, .int 0, .int 0, .int 0, .int (-1), .int (-1), .ref h5, .ref h6, .ref h7, .ref h8, .ref h9, .ref h10, .ref h11, .int 0, .int 0, .int 0, .int 0, .ref h13, .ref h12, .int 0]) : Met l yX12_code (.code yX12_code cX12_code 3 (some .int) :: wP) ({ frames := 0, cells := 0, slots := 0, locals := 0 }) (Pz dC dI [.ref h0, .int x0, .int x1] sz [(h0, .inr (8, fs)), (h1, .inl (k0, 4000, .inl (fun _ => 0))), (h2, .inl (k1, 1203, .inl (fun _ => 0))), (h3, .inl (k2, 1203, .inl (fun _ => 0))), (h4, .inl (k3, 1203, .inl (fun _ => 0))), (h5, .inl (k4, 2, .inl (fun _ => 0))), (h6, .inl (k5, 2, .inl (fun _ => 0))), (h7, .inl (k6, 2, .inl (fun _ => 0))), (h8, .inl (k7, 2, .inl (fun _ => 0))), (h9, .inl (k8, 2, .inl (fun _ => 0))), (h10, .inl (k9, 2, .inl (fun _ => 0))), (h11, .inl (k10, 2, .inl (fun _ => 0))), (h12, .inl (k11, 50, .inl (fun _ => 0))), (h13, .inl (k12, 2, .inl (upd (fun _ => 0) (0 : Int32).toNatClampNeg (vp_nar .boolean 0))))] [(k0, .byte), (k1, .int), (k2, .int), (k3, .int), (k4, .int), (k5, .int), (k6, .int), (k7, .int), (k8, .int), (k9, .int), (k10, .int), (k11, .int), (k12, .boolean)]) (va_Qi (fun (r : Int32) (_ : Unit) => r = (-1)) (fun (_ : Unit) (_ : State) => True) (va_A [(h0, .inr (8, fs)), (h1, .inl (k0, 4000, .inl (fun _ => 0))), (h2, .inl (k1, 1203, .inl (fun _ => 0))), (h3, .inl (k2, 1203, .inl (fun _ => 0))), (h4, .inl (k3, 1203, .inl (fun _ => 0))), (h5, .inl (k4, 2, .inl (fun _ => 0))), (h6, .inl (k5, 2, .inl (fun _ => 0))), (h7, .inl (k6, 2, .inl (fun _ => 0))), (h8, .inl (k7, 2, .inl (fun _ => 0))), (h9, .inl (k8, 2, .inl (fun _ => 0))), (h10, .inl (k9, 2, .inl (fun _ => 0))), (h11, .inl (k10, 2, .inl (fun _ => 0))), (h12, .inl (k11, 50, .inl (fun _ => 0))), (h13, .inl (k12, 2, .inl (upd (fun _ => 0) (0 : Int32).toNatClampNeg (vp_nar .boolean 0))))] sz)) 0 0 (va_A [(h0, .inr (8, fs)), (h1, .inl (k0, 4000, .inl (fun _ => 0))), (h2, .inl (k1, 1203, .inl (fun _ => 0))), (h3, .inl (k2, 1203, .inl (fun _ => 0))), (h4, .inl (k3, 1203, .inl (fun _ => 0))), (h5, .inl (k4, 2, .inl (fun _ => 0))), (h6, .inl (k5, 2, .inl (fun _ => 0))), (h7, .inl (k6, 2, .inl (fun _ => 0))), (h8, .inl (k7, 2, .inl (fun _ => 0))), (h9, .inl (k8, 2, .inl (fun _ => 0))), (h10, .inl (k9, 2, .inl (fun _ => 0))), (h11, .inl (k10, 2, .inl (fun _ => 0))), (h12, .inl (k11, 50, .inl (fun _ => 0))), (h13, .inl (k12, 2, .inl (upd (fun _ => 0) (0 : Int32).toNatClampNeg (vp_nar .boolean 0))))] sz) := by
  refine Met.ofW (cc := cX12_code) (maxL := 3) (ret := (some .int)) (by decide) rfl ?_
  intro p e s m args below meth c s₁ B hml hv
  obtain ⟨rfl, hsz, hP, hK, hD0⟩ := hv
  have hx := B.exec
  have hb := B.bytes
  have hr := B.returns
  have hts := atoms_spec (ws := .code yX12_code cX12_code 3 (some .int) :: wP) B.pre
  have hw : ∀ w ∈ wP, w.before _ s = true := fun w h => hts w (List.mem_cons_of_mem _ h)
  have hown : s.vm.findClass RX12 = some m.cls := findClass_of_methodNamed B.named
  have hlocks := B.notSynchronized
  subst hsz
  have hD := hD0.self (sz := s.heap.size)
  generalize hAe : va_A [(h0, .inr (8, fs)), (h1, .inl (k0, 4000, .inl (fun _ => 0))), (h2, .inl (k1, 1203, .inl (fun _ => 0))), (h3, .inl (k2, 1203, .inl (fun _ => 0))), (h4, .inl (k3, 1203, .inl (fun _ => 0))), (h5, .inl (k4, 2, .inl (fun _ => 0))), (h6, .inl (k5, 2, .inl (fun _ => 0))), (h7, .inl (k6, 2, .inl (fun _ => 0))), (h8, .inl (k7, 2, .inl (fun _ => 0))), (h9, .inl (k8, 2, .inl (fun _ => 0))), (h10, .inl (k9, 2, .inl (fun _ => 0))), (h11, .inl (k10, 2, .inl (fun _ => 0))), (h12, .inl (k11, 50, .inl (fun _ => 0))), (h13, .inl (k12, 2, .inl (upd (fun _ => 0) (0 : Int32).toNatClampNeg (vp_nar .boolean 0))))] s.heap.size = A at hD ⊢
  have hA : ∀ q : Nat, s.heap.size ≤ q → A q := fun q h => by rw [← hAe]; exact Or.inr h
  have hS : va_S A s.heap s.heap [] := va_S.rf
  have hP : va_P (dC, dI) vC [(h0, .inr (8, fs)), (h1, .inl (k0, 4000, .inl (fun _ => 0))), (h2, .inl (k1, 1203, .inl (fun _ => 0))), (h3, .inl (k2, 1203, .inl (fun _ => 0))), (h4, .inl (k3, 1203, .inl (fun _ => 0))), (h5, .inl (k4, 2, .inl (fun _ => 0))), (h6, .inl (k5, 2, .inl (fun _ => 0))), (h7, .inl (k6, 2, .inl (fun _ => 0))), (h8, .inl (k7, 2, .inl (fun _ => 0))), (h9, .inl (k8, 2, .inl (fun _ => 0))), (h10, .inl (k9, 2, .inl (fun _ => 0))), (h11, .inl (k10, 2, .inl (fun _ => 0))), (h12, .inl (k11, 50, .inl (fun _ => 0))), (h13, .inl (k12, 2, .inl (upd (fun _ => 0) (0 : Int32).toNatClampNeg (vp_nar .boolean 0))))] s.heap := hP
  have hl := lv_entry ([.ref h0, .int x0, .int x1]) (n := 3) (Nat.le_of_ble_eq_true rfl)
  rw [lg_entry_eq]
  generalize (lg_sl ([.ref h0, .int x0, .int x1]) ++ List.replicate (3 - (lg_sl ([.ref h0, .int x0, .int x1])).length) Slot.unset).toArray = ls at hl ⊢
  have hl : lv_has ls 3 [(0, .ref h0), (1, .int x0), (2, .int x1)] := hl
  refine lv_aload_n hx hb dX12_code_0 rfl (lv_at hl 0 rfl) ?_
  refine va_get (D := (dC, dI)) (ci := 8) (v := .int 0) (C := RX12) (T := TX12) (N := 105) hx hb hw inX12 hown hK hP 0 rfl rfl 79 (by decide) (hw _ mP_514) (fun _ h9 => h9) (hF.get 22 rfl rfl) dX12_code_1 ?_
  refine lv_if_eq (tgt := 19) hx hb dX12_code_4 (by decide) (fun _ => ?_) (fun c => absurd (by decide +kernel) c)
  refine lv_iconst (v := (-1)) hx hb dX12_code_19 (by decide) ?_
  refine W.widen (k := 0) (n := 0) (Nat.le_of_ble_eq_true rfl) (Nat.le_of_ble_eq_true rfl) ?_
  exact W.iret (v := (-1)) hx hb hr (fun t ht hW => ⟨⟨(-1), (), rfl, rfl, trivial⟩, hS.F ht⟩) hS.2.2 dX12_code_20
set_option maxHeartbeats 4000000 in
set_option maxRecDepth 100000 in
theorem tX11_input_n1 (l : Launch) (dC : Nat → ClassId) (dI : Nat → Nat → Nat) (h0 h1 h2 : Nat) (sz : Nat) (k0 k1 : ClassId) (x0 : Int32) : Met l yX11_input (.code yX11_input cX11_input 2 (some .int) :: wP) ({ frames := 0, cells := 0, slots := 0, locals := 0 }) (Pz dC dI [.ref h0, .int x0] sz [(h0, .inr (7, [.ref h1, .int 0, .ref h2, .int 0, .int (-1), .null, .null, .null, .null, .null, .null, .null, .null, .null, .null])), (h1, .inl (k0, 4000, .inl (fun _ => 0))), (h2, .inl (k1, 50, .inl (fun _ => 0)))] [(k0, .byte), (k1, .int)]) (va_Qi (fun (r : Int32) (_ : Unit) => r = 1) (fun (_ : Unit) (_ : State) => True) (va_A [(h0, .inr (7, [.ref h1, .int 0, .ref h2, .int 0, .int (-1), .null, .null, .null, .null, .null, .null, .null, .null, .null, .null])), (h1, .inl (k0, 4000, .inl (fun _ => 0))), (h2, .inl (k1, 50, .inl (fun _ => 0)))] sz)) 0 0 (va_A [(h0, .inr (7, [.ref h1, .int 0, .ref h2, .int 0, .int (-1), .null, .null, .null, .null, .null, .null, .null, .null, .null, .null])), (h1, .inl (k0, 4000, .inl (fun _ => 0))), (h2, .inl (k1, 50, .inl (fun _ => 0)))] sz) := by
  refine Met.ofW (cc := cX11_input) (maxL := 2) (ret := (some .int)) (by decide) rfl ?_
  intro p e s m args below meth c s₁ B hml hv
  obtain ⟨rfl, hsz, hP, hK, hD0⟩ := hv
  have hx := B.exec
  have hb := B.bytes
  have hr := B.returns
  have hts := atoms_spec (ws := .code yX11_input cX11_input 2 (some .int) :: wP) B.pre
  have hw : ∀ w ∈ wP, w.before _ s = true := fun w h => hts w (List.mem_cons_of_mem _ h)
  have hown : s.vm.findClass RX11 = some m.cls := findClass_of_methodNamed B.named
  have hlocks := B.notSynchronized
  subst hsz
  have hD := hD0.self (sz := s.heap.size)
  generalize hAe : va_A [(h0, .inr (7, [.ref h1, .int 0, .ref h2, .int 0, .int (-1), .null, .null, .null, .null, .null, .null, .null, .null, .null, .null])), (h1, .inl (k0, 4000, .inl (fun _ => 0))), (h2, .inl (k1, 50, .inl (fun _ => 0)))] s.heap.size = A at hD ⊢
  have hA : ∀ q : Nat, s.heap.size ≤ q → A q := fun q h => by rw [← hAe]; exact Or.inr h
  have hS : va_S A s.heap s.heap [] := va_S.rf
  have hP : va_P (dC, dI) vC [(h0, .inr (7, [.ref h1, .int 0, .ref h2, .int 0, .int (-1), .null, .null, .null, .null, .null, .null, .null, .null, .null, .null])), (h1, .inl (k0, 4000, .inl (fun _ => 0))), (h2, .inl (k1, 50, .inl (fun _ => 0)))] s.heap := hP
  have hl := lv_entry ([.ref h0, .int x0]) (n := 2) (Nat.le_of_ble_eq_true rfl)
  rw [lg_entry_eq]
  generalize (lg_sl ([.ref h0, .int x0]) ++ List.replicate (2 - (lg_sl ([.ref h0, .int x0])).length) Slot.unset).toArray = ls at hl ⊢
  have hl : lv_has ls 2 [(0, .ref h0), (1, .int x0)] := hl
  refine lv_aload_n hx hb dX11_input_0 rfl (lv_at hl 0 rfl) ?_
  refine va_get (D := (dC, dI)) (ci := 7) (v := .int 0) (C := RX11) (T := TX11) (N := 15) hx hb hw inX11 hown hK hP 0 rfl rfl 3 (by decide) (hw _ mP_519) (fun _ h9 => h9) rfl dX11_input_1 ?_
  refine lv_if_lt (tgt := 19) hx hb dX11_input_4 (by decide) (fun c => absurd c (by decide +kernel)) (fun _ => ?_)
  refine lv_aload_n hx hb dX11_input_7 rfl (lv_at hl 0 rfl) ?_
  refine va_get (D := (dC, dI)) (ci := 7) (v := .int 0) (C := RX11) (T := TX11) (N := 15) hx hb hw inX11 hown hK hP 0 rfl rfl 3 (by decide) (hw _ mP_519) (fun _ h9 => h9) rfl dX11_input_8 ?_
  refine lv_aload_n hx hb dX11_input_11 rfl (lv_at hl 0 rfl) ?_
  refine va_get (D := (dC, dI)) (ci := 7) (v := .ref h2) (C := RX11) (T := TX11) (N := 15) hx hb hw inX11 hown hK hP 0 rfl rfl 2 (by decide) (hw _ mP_33) (fun _ h9 => h9) rfl dX11_input_12 ?_
  refine va_alen (v := 50) hx hb hK hP 2 1 rfl rfl (show Int32.ofNat 50 = 50 by decide +kernel) dX11_input_15 ?_
  refine lv_icmp_lt (tgt := 21) hx hb dX11_input_16 (by decide) (fun _ => ?_) (fun c => absurd (by decide +kernel) c)
  refine lv_aload_n hx hb dX11_input_21 rfl (lv_at hl 0 rfl) ?_
  refine va_get (D := (dC, dI)) (ci := 7) (v := .ref h2) (C := RX11) (T := TX11) (N := 15) hx hb hw inX11 hown hK hP 0 rfl rfl 2 (by decide) (hw _ mP_33) (fun _ h9 => h9) rfl dX11_input_22 ?_
  refine lv_aload_n hx hb dX11_input_25 rfl (lv_at hl 0 rfl) ?_
  refine va_get (D := (dC, dI)) (ci := 7) (v := .int 0) (C := RX11) (T := TX11) (N := 15) hx hb hw inX11 hown hK hP 0 rfl rfl 3 (by decide) (hw _ mP_519) (fun _ h9 => h9) rfl dX11_input_26 ?_
  refine lv_iload_n hx hb dX11_input_29 rfl (lv_at hl 1 rfl) ?_
  refine va_iast hx hb hK hP hD hS 2 1 rfl rfl (vin (by decide +kernel)) dX11_input_30 (fun H locs hP hD hS => ?_)
  obtain ⟨f1, hP, hD⟩ : ∃ f1 : Nat → Int32, va_P (dC, dI) vC [(h0, .inr (7, [.ref h1, .int 0, .ref h2, .int 0, .int (-1), .null, .null, .null, .null, .null, .null, .null, .null, .null, .null])), (h1, .inl (k0, 4000, .inl (fun _ => 0))), (h2, .inl (k1, 50, .inl f1))] H ∧ va_D A [(h0, .inr (7, [.ref h1, .int 0, .ref h2, .int 0, .int (-1), .null, .null, .null, .null, .null, .null, .null, .null, .null, .null])), (h1, .inl (k0, 4000, .inl (fun _ => 0))), (h2, .inl (k1, 50, .inl f1))] := ⟨_, hP, hD⟩
  refine lv_aload_n hx hb dX11_input_31 rfl (lv_at hl 0 rfl) ?_
  refine lv_dup hx hb dX11_input_32 rfl ?_
  refine va_get (D := (dC, dI)) (ci := 7) (v := .int 0) (C := RX11) (T := TX11) (N := 15) hx hb hw inX11 hown hK hP 0 rfl rfl 3 (by decide) (hw _ mP_519) (fun _ h9 => h9) rfl dX11_input_33 ?_
  refine lv_iconst (v := 1) hx hb dX11_input_36 (by decide) ?_
  refine lv_iadd hx hb dX11_input_37 ?_
  refine lv_nmi (y := 1) (by decide +kernel) ?_
  refine va_put (D := (dC, dI)) (ci := 7) (v := .int 1) (ty := .int) (C := RX11) (T := TX11) (N := 15) hx hb hw inX11 tyX11 tyX11_ok nmX11 hown hK hP hD hS 0 rfl rfl 3 (by decide) (hw _ mP_519) (fun _ h9 => h9) rfl (tyX11_ok 3 (by decide)) rfl rfl (Nat.le_of_ble_eq_true rfl) dX11_input_38 (fun H locs hP hD hS => ?_)
  have hP : va_P (dC, dI) vC [(h0, .inr (7, [.ref h1, .int 0, .ref h2, .int 1, .int (-1), .null, .null, .null, .null, .null, .null, .null, .null, .null, .null])), (h1, .inl (k0, 4000, .inl (fun _ => 0))), (h2, .inl (k1, 50, .inl f1))] H := hP
  have hD : va_D A [(h0, .inr (7, [.ref h1, .int 0, .ref h2, .int 1, .int (-1), .null, .null, .null, .null, .null, .null, .null, .null, .null, .null])), (h1, .inl (k0, 4000, .inl (fun _ => 0))), (h2, .inl (k1, 50, .inl f1))] := hD
  refine lv_aload_n hx hb dX11_input_41 rfl (lv_at hl 0 rfl) ?_
  refine va_get (D := (dC, dI)) (ci := 7) (v := .int 1) (C := RX11) (T := TX11) (N := 15) hx hb hw inX11 hown hK hP 0 rfl rfl 3 (by decide) (hw _ mP_519) (fun _ h9 => h9) rfl dX11_input_42 ?_
  refine W.widen (k := 0) (n := 0) (Nat.le_of_ble_eq_true rfl) (Nat.le_of_ble_eq_true rfl) ?_
  exact W.iret (v := 1) hx hb hr (fun t ht hW => ⟨⟨1, (), rfl, rfl, trivial⟩, hS.F ht⟩) hS.2.2 dX11_input_45
set_option maxHeartbeats 4000000 in
set_option maxRecDepth 100000 in
theorem tX12_input_n1 (l : Launch) (dC : Nat → ClassId) (dI : Nat → Nat → Nat) (h0 h1 h2 h3 h4 h5 h6 h7 h8 h9 h10 h11 h12 h13 j0 : Nat) (sz : Nat) (k0 k1 k2 k3 k4 k5 k6 k7 k8 k9 k10 k11 k12 : ClassId) (x0 : Int32) (fs : List Value) (hF : MF fs [.ref j0, .ref h1, .int 0, .int 0, .ref h2, .ref h3, .ref h4, .int 0, .int 0, .int 0, .int (-1), .int (-1), .ref h5, .ref h6, .ref h7, .ref h8, .ref h9, .ref h10, .ref h11, .int 0, .int 0, .int 0, .int 0, .ref h13, .ref h12, .int 0]) : Met l yX12_input (.code yX12_input cX12_input 2 (some .int) :: wP) ({ frames := 0, cells := 0, slots := 0, locals := 0 }) (Pz dC dI [.ref h0, .int x0] sz [(h0, .inr (8, fs)), (h1, .inl (k0, 4000, .inl (fun _ => 0))), (h2, .inl (k1, 1203, .inl (fun _ => 0))), (h3, .inl (k2, 1203, .inl (fun _ => 0))), (h4, .inl (k3, 1203, .inl (fun _ => 0))), (h5, .inl (k4, 2, .inl (fun _ => 0))), (h6, .inl (k5, 2, .inl (fun _ => 0))), (h7, .inl (k6, 2, .inl (fun _ => 0))), (h8, .inl (k7, 2, .inl (fun _ => 0))), (h9, .inl (k8, 2, .inl (fun _ => 0))), (h10, .inl (k9, 2, .inl (fun _ => 0))), (h11, .inl (k10, 2, .inl (fun _ => 0))), (h12, .inl (k11, 50, .inl (fun _ => 0))), (h13, .inl (k12, 2, .inl (upd (fun _ => 0) (0 : Int32).toNatClampNeg (vp_nar .boolean 0))))] [(k0, .byte), (k1, .int), (k2, .int), (k3, .int), (k4, .int), (k5, .int), (k6, .int), (k7, .int), (k8, .int), (k9, .int), (k10, .int), (k11, .int), (k12, .boolean)]) (va_Qi (fun (r : Int32) (_ : Unit) => r = 1) (fun (_ : Unit) (_ : State) => True) (va_A [(h0, .inr (8, fs)), (h1, .inl (k0, 4000, .inl (fun _ => 0))), (h2, .inl (k1, 1203, .inl (fun _ => 0))), (h3, .inl (k2, 1203, .inl (fun _ => 0))), (h4, .inl (k3, 1203, .inl (fun _ => 0))), (h5, .inl (k4, 2, .inl (fun _ => 0))), (h6, .inl (k5, 2, .inl (fun _ => 0))), (h7, .inl (k6, 2, .inl (fun _ => 0))), (h8, .inl (k7, 2, .inl (fun _ => 0))), (h9, .inl (k8, 2, .inl (fun _ => 0))), (h10, .inl (k9, 2, .inl (fun _ => 0))), (h11, .inl (k10, 2, .inl (fun _ => 0))), (h12, .inl (k11, 50, .inl (fun _ => 0))), (h13, .inl (k12, 2, .inl (upd (fun _ => 0) (0 : Int32).toNatClampNeg (vp_nar .boolean 0))))] sz)) 0 0 (va_A [(h0, .inr (8, fs)), (h1, .inl (k0, 4000, .inl (fun _ => 0))), (h2, .inl (k1, 1203, .inl (fun _ => 0))), (h3, .inl (k2, 1203, .inl (fun _ => 0))), (h4, .inl (k3, 1203, .inl (fun _ => 0))), (h5, .inl (k4, 2, .inl (fun _ => 0))), (h6, .inl (k5, 2, .inl (fun _ => 0))), (h7, .inl (k6, 2, .inl (fun _ => 0))), (h8, .inl (k7, 2, .inl (fun _ => 0))), (h9, .inl (k8, 2, .inl (fun _ => 0))), (h10, .inl (k9, 2, .inl (fun _ => 0))), (h11, .inl (k10, 2, .inl (fun _ => 0))), (h12, .inl (k11, 50, .inl (fun _ => 0))), (h13, .inl (k12, 2, .inl (upd (fun _ => 0) (0 : Int32).toNatClampNeg (vp_nar .boolean 0))))] sz) := by
  refine Met.ofW (cc := cX12_input) (maxL := 2) (ret := (some .int)) (by decide) rfl ?_
  intro p e s m args below meth c s₁ B hml hv
  obtain ⟨rfl, hsz, hP, hK, hD0⟩ := hv
  have hx := B.exec
  have hb := B.bytes
  have hr := B.returns
  have hts := atoms_spec (ws := .code yX12_input cX12_input 2 (some .int) :: wP) B.pre
  have hw : ∀ w ∈ wP, w.before _ s = true := fun w h => hts w (List.mem_cons_of_mem _ h)
  have hown : s.vm.findClass RX12 = some m.cls := findClass_of_methodNamed B.named
  have hlocks := B.notSynchronized
  subst hsz
  have hD := hD0.self (sz := s.heap.size)
  generalize hAe : va_A [(h0, .inr (8, fs)), (h1, .inl (k0, 4000, .inl (fun _ => 0))), (h2, .inl (k1, 1203, .inl (fun _ => 0))), (h3, .inl (k2, 1203, .inl (fun _ => 0))), (h4, .inl (k3, 1203, .inl (fun _ => 0))), (h5, .inl (k4, 2, .inl (fun _ => 0))), (h6, .inl (k5, 2, .inl (fun _ => 0))), (h7, .inl (k6, 2, .inl (fun _ => 0))), (h8, .inl (k7, 2, .inl (fun _ => 0))), (h9, .inl (k8, 2, .inl (fun _ => 0))), (h10, .inl (k9, 2, .inl (fun _ => 0))), (h11, .inl (k10, 2, .inl (fun _ => 0))), (h12, .inl (k11, 50, .inl (fun _ => 0))), (h13, .inl (k12, 2, .inl (upd (fun _ => 0) (0 : Int32).toNatClampNeg (vp_nar .boolean 0))))] s.heap.size = A at hD ⊢
  have hA : ∀ q : Nat, s.heap.size ≤ q → A q := fun q h => by rw [← hAe]; exact Or.inr h
  have hS : va_S A s.heap s.heap [] := va_S.rf
  have hP : va_P (dC, dI) vC [(h0, .inr (8, fs)), (h1, .inl (k0, 4000, .inl (fun _ => 0))), (h2, .inl (k1, 1203, .inl (fun _ => 0))), (h3, .inl (k2, 1203, .inl (fun _ => 0))), (h4, .inl (k3, 1203, .inl (fun _ => 0))), (h5, .inl (k4, 2, .inl (fun _ => 0))), (h6, .inl (k5, 2, .inl (fun _ => 0))), (h7, .inl (k6, 2, .inl (fun _ => 0))), (h8, .inl (k7, 2, .inl (fun _ => 0))), (h9, .inl (k8, 2, .inl (fun _ => 0))), (h10, .inl (k9, 2, .inl (fun _ => 0))), (h11, .inl (k10, 2, .inl (fun _ => 0))), (h12, .inl (k11, 50, .inl (fun _ => 0))), (h13, .inl (k12, 2, .inl (upd (fun _ => 0) (0 : Int32).toNatClampNeg (vp_nar .boolean 0))))] s.heap := hP
  have hl := lv_entry ([.ref h0, .int x0]) (n := 2) (Nat.le_of_ble_eq_true rfl)
  rw [lg_entry_eq]
  generalize (lg_sl ([.ref h0, .int x0]) ++ List.replicate (2 - (lg_sl ([.ref h0, .int x0])).length) Slot.unset).toArray = ls at hl ⊢
  have hl : lv_has ls 2 [(0, .ref h0), (1, .int x0)] := hl
  refine lv_aload_n hx hb dX12_input_0 rfl (lv_at hl 0 rfl) ?_
  refine va_get (D := (dC, dI)) (ci := 8) (v := .int 0) (C := RX12) (T := TX12) (N := 105) hx hb hw inX12 hown hK hP 0 rfl rfl 93 (by decide) (hw _ mP_524) (fun _ h9 => h9) (hF.get 25 rfl rfl) dX12_input_1 ?_
  refine lv_bipush (v := 50) hx hb dX12_input_4 (by decide) ?_
  refine lv_icmp_ne (tgt := 11) hx hb dX12_input_6 (by decide) (fun _ => ?_) (fun c => absurd c (by decide +kernel))
  refine lv_aload_n hx hb dX12_input_11 rfl (lv_at hl 0 rfl) ?_
  refine va_get (D := (dC, dI)) (ci := 8) (v := .ref h12) (C := RX12) (T := TX12) (N := 105) hx hb hw inX12 hown hK hP 0 rfl rfl 92 (by decide) (hw _ mP_120) (fun _ h9 => h9) (hF.get 24 rfl rfl) dX12_input_12 ?_
  refine lv_aload_n hx hb dX12_input_15 rfl (lv_at hl 0 rfl) ?_
  refine va_get (D := (dC, dI)) (ci := 8) (v := .int 0) (C := RX12) (T := TX12) (N := 105) hx hb hw inX12 hown hK hP 0 rfl rfl 93 (by decide) (hw _ mP_524) (fun _ h9 => h9) (hF.get 25 rfl rfl) dX12_input_16 ?_
  refine lv_iload_n hx hb dX12_input_19 rfl (lv_at hl 1 rfl) ?_
  refine va_iast hx hb hK hP hD hS 12 11 rfl rfl (vin (by decide +kernel)) dX12_input_20 (fun H locs hP hD hS => ?_)
  obtain ⟨f1, hP, hD⟩ : ∃ f1 : Nat → Int32, va_P (dC, dI) vC [(h0, .inr (8, fs)), (h1, .inl (k0, 4000, .inl (fun _ => 0))), (h2, .inl (k1, 1203, .inl (fun _ => 0))), (h3, .inl (k2, 1203, .inl (fun _ => 0))), (h4, .inl (k3, 1203, .inl (fun _ => 0))), (h5, .inl (k4, 2, .inl (fun _ => 0))), (h6, .inl (k5, 2, .inl (fun _ => 0))), (h7, .inl (k6, 2, .inl (fun _ => 0))), (h8, .inl (k7, 2, .inl (fun _ => 0))), (h9, .inl (k8, 2, .inl (fun _ => 0))), (h10, .inl (k9, 2, .inl (fun _ => 0))), (h11, .inl (k10, 2, .inl (fun _ => 0))), (h12, .inl (k11, 50, .inl f1)), (h13, .inl (k12, 2, .inl (upd (fun _ => 0) (0 : Int32).toNatClampNeg (vp_nar .boolean 0))))] H ∧ va_D A [(h0, .inr (8, fs)), (h1, .inl (k0, 4000, .inl (fun _ => 0))), (h2, .inl (k1, 1203, .inl (fun _ => 0))), (h3, .inl (k2, 1203, .inl (fun _ => 0))), (h4, .inl (k3, 1203, .inl (fun _ => 0))), (h5, .inl (k4, 2, .inl (fun _ => 0))), (h6, .inl (k5, 2, .inl (fun _ => 0))), (h7, .inl (k6, 2, .inl (fun _ => 0))), (h8, .inl (k7, 2, .inl (fun _ => 0))), (h9, .inl (k8, 2, .inl (fun _ => 0))), (h10, .inl (k9, 2, .inl (fun _ => 0))), (h11, .inl (k10, 2, .inl (fun _ => 0))), (h12, .inl (k11, 50, .inl f1)), (h13, .inl (k12, 2, .inl (upd (fun _ => 0) (0 : Int32).toNatClampNeg (vp_nar .boolean 0))))] := ⟨_, hP, hD⟩
  refine lv_aload_n hx hb dX12_input_21 rfl (lv_at hl 0 rfl) ?_
  refine lv_dup hx hb dX12_input_22 rfl ?_
  refine va_get (D := (dC, dI)) (ci := 8) (v := .int 0) (C := RX12) (T := TX12) (N := 105) hx hb hw inX12 hown hK hP 0 rfl rfl 93 (by decide) (hw _ mP_524) (fun _ h9 => h9) (hF.get 25 rfl rfl) dX12_input_23 ?_
  refine lv_iconst (v := 1) hx hb dX12_input_26 (by decide) ?_
  refine lv_iadd hx hb dX12_input_27 ?_
  refine lv_nmi (y := 1) (by decide +kernel) ?_
  refine va_put (D := (dC, dI)) (ci := 8) (v := .int 1) (ty := .int) (C := RX12) (T := TX12) (N := 105) hx hb hw inX12 tyX12 tyX12_ok nmX12 hown hK hP hD hS 0 rfl rfl 93 (by decide) (hw _ mP_524) (fun _ h9 => h9) rfl (tyX12_ok 93 (by decide)) rfl rfl (hF.len (Nat.le_of_ble_eq_true rfl)) dX12_input_28 (fun H locs hP hD hS => ?_)
  obtain ⟨fs2, hF, hP, hD⟩ : ∃ fs2 : List Value, MF fs2 [.ref j0, .ref h1, .int 0, .int 0, .ref h2, .ref h3, .ref h4, .int 0, .int 0, .int 0, .int (-1), .int (-1), .ref h5, .ref h6, .ref h7, .ref h8, .ref h9, .ref h10, .ref h11, .int 0, .int 0, .int 0, .int 0, .ref h13, .ref h12, .int 1] ∧ va_P (dC, dI) vC [(h0, .inr (8, fs2)), (h1, .inl (k0, 4000, .inl (fun _ => 0))), (h2, .inl (k1, 1203, .inl (fun _ => 0))), (h3, .inl (k2, 1203, .inl (fun _ => 0))), (h4, .inl (k3, 1203, .inl (fun _ => 0))), (h5, .inl (k4, 2, .inl (fun _ => 0))), (h6, .inl (k5, 2, .inl (fun _ => 0))), (h7, .inl (k6, 2, .inl (fun _ => 0))), (h8, .inl (k7, 2, .inl (fun _ => 0))), (h9, .inl (k8, 2, .inl (fun _ => 0))), (h10, .inl (k9, 2, .inl (fun _ => 0))), (h11, .inl (k10, 2, .inl (fun _ => 0))), (h12, .inl (k11, 50, .inl f1)), (h13, .inl (k12, 2, .inl (upd (fun _ => 0) (0 : Int32).toNatClampNeg (vp_nar .boolean 0))))] H ∧ va_D A [(h0, .inr (8, fs2)), (h1, .inl (k0, 4000, .inl (fun _ => 0))), (h2, .inl (k1, 1203, .inl (fun _ => 0))), (h3, .inl (k2, 1203, .inl (fun _ => 0))), (h4, .inl (k3, 1203, .inl (fun _ => 0))), (h5, .inl (k4, 2, .inl (fun _ => 0))), (h6, .inl (k5, 2, .inl (fun _ => 0))), (h7, .inl (k6, 2, .inl (fun _ => 0))), (h8, .inl (k7, 2, .inl (fun _ => 0))), (h9, .inl (k8, 2, .inl (fun _ => 0))), (h10, .inl (k9, 2, .inl (fun _ => 0))), (h11, .inl (k10, 2, .inl (fun _ => 0))), (h12, .inl (k11, 50, .inl f1)), (h13, .inl (k12, 2, .inl (upd (fun _ => 0) (0 : Int32).toNatClampNeg (vp_nar .boolean 0))))] := ⟨_, hF.put 25 rfl, hP, hD⟩
  refine lv_aload_n hx hb dX12_input_31 rfl (lv_at hl 0 rfl) ?_
  refine va_get (D := (dC, dI)) (ci := 8) (v := .int 1) (C := RX12) (T := TX12) (N := 105) hx hb hw inX12 hown hK hP 0 rfl rfl 93 (by decide) (hw _ mP_524) (fun _ h9 => h9) (hF.get 25 rfl rfl) dX12_input_32 ?_
  refine W.widen (k := 0) (n := 0) (Nat.le_of_ble_eq_true rfl) (Nat.le_of_ble_eq_true rfl) ?_
  exact W.iret (v := 1) hx hb hr (fun t ht hW => ⟨⟨1, (), rfl, rfl, trivial⟩, hS.F ht⟩) hS.2.2 dX12_input_35
set_option maxHeartbeats 4000000 in
set_option maxRecDepth 100000 in
theorem tX11_clear_n1 (l : Launch) (dC : Nat → ClassId) (dI : Nat → Nat → Nat) (h0 h1 h2 : Nat) (sz : Nat) (k0 k1 : ClassId) : Met l yX11_clear (.code yX11_clear cX11_clear 2 (some .int) :: wP) ({ frames := 0, cells := 0, slots := 0, locals := 0 }) (Pz dC dI [.ref h0] sz [(h0, .inr (7, [.ref h1, .int 0, .ref h2, .int 0, .int (-1), .null, .null, .null, .null, .null, .null, .null, .null, .null, .null])), (h1, .inl (k0, 4000, .inl (fun _ => 0))), (h2, .inl (k1, 50, .inl (fun _ => 0)))] [(k0, .byte), (k1, .int)]) (va_Qi (fun (r : Int32) (_ : Unit) => r = 0) (fun (_ : Unit) (_ : State) => True) (va_A [(h0, .inr (7, [.ref h1, .int 0, .ref h2, .int 0, .int (-1), .null, .null, .null, .null, .null, .null, .null, .null, .null, .null])), (h1, .inl (k0, 4000, .inl (fun _ => 0))), (h2, .inl (k1, 50, .inl (fun _ => 0)))] sz)) 0 0 (va_A [(h0, .inr (7, [.ref h1, .int 0, .ref h2, .int 0, .int (-1), .null, .null, .null, .null, .null, .null, .null, .null, .null, .null])), (h1, .inl (k0, 4000, .inl (fun _ => 0))), (h2, .inl (k1, 50, .inl (fun _ => 0)))] sz) := by
  refine Met.ofW (cc := cX11_clear) (maxL := 2) (ret := (some .int)) (by decide) rfl ?_
  intro p e s m args below meth c s₁ B hml hv
  obtain ⟨rfl, hsz, hP, hK, hD0⟩ := hv
  have hx := B.exec
  have hb := B.bytes
  have hr := B.returns
  have hts := atoms_spec (ws := .code yX11_clear cX11_clear 2 (some .int) :: wP) B.pre
  have hw : ∀ w ∈ wP, w.before _ s = true := fun w h => hts w (List.mem_cons_of_mem _ h)
  have hown : s.vm.findClass RX11 = some m.cls := findClass_of_methodNamed B.named
  have hlocks := B.notSynchronized
  subst hsz
  have hD := hD0.self (sz := s.heap.size)
  generalize hAe : va_A [(h0, .inr (7, [.ref h1, .int 0, .ref h2, .int 0, .int (-1), .null, .null, .null, .null, .null, .null, .null, .null, .null, .null])), (h1, .inl (k0, 4000, .inl (fun _ => 0))), (h2, .inl (k1, 50, .inl (fun _ => 0)))] s.heap.size = A at hD ⊢
  have hA : ∀ q : Nat, s.heap.size ≤ q → A q := fun q h => by rw [← hAe]; exact Or.inr h
  have hS : va_S A s.heap s.heap [] := va_S.rf
  have hP : va_P (dC, dI) vC [(h0, .inr (7, [.ref h1, .int 0, .ref h2, .int 0, .int (-1), .null, .null, .null, .null, .null, .null, .null, .null, .null, .null])), (h1, .inl (k0, 4000, .inl (fun _ => 0))), (h2, .inl (k1, 50, .inl (fun _ => 0)))] s.heap := hP
  have hl := lv_entry ([.ref h0]) (n := 2) (Nat.le_of_ble_eq_true rfl)
  rw [lg_entry_eq]
  generalize (lg_sl ([.ref h0]) ++ List.replicate (2 - (lg_sl ([.ref h0])).length) Slot.unset).toArray = ls at hl ⊢
  have hl : lv_has ls 2 [(0, .ref h0)] := hl
  refine lv_aload_n hx hb dX11_clear_0 rfl (lv_at hl 0 rfl) ?_
  refine va_get (D := (dC, dI)) (ci := 7) (v := .int 0) (C := RX11) (T := TX11) (N := 15) hx hb hw inX11 hown hK hP 0 rfl rfl 3 (by decide) (hw _ mP_519) (fun _ h9 => h9) rfl dX11_clear_1 ?_
  refine lv_istore_n (lv' := [(1, .int 0), (0, .ref h0)]) hx hb dX11_clear_4 rfl hl (by decide) rfl (fun ls hl => ?_)
  refine lv_aload_n hx hb dX11_clear_5 rfl (lv_at hl 1 rfl) ?_
  refine lv_iconst (v := 0) hx hb dX11_clear_6 (by decide) ?_
  refine va_put (D := (dC, dI)) (ci := 7) (v := .int 0) (ty := .int) (C := RX11) (T := TX11) (N := 15) hx hb hw inX11 tyX11 tyX11_ok nmX11 hown hK hP hD hS 0 rfl rfl 3 (by decide) (hw _ mP_519) (fun _ h9 => h9) rfl (tyX11_ok 3 (by decide)) rfl rfl (Nat.le_of_ble_eq_true rfl) dX11_clear_7 (fun H locs hP hD hS => ?_)
  have hP : va_P (dC, dI) vC [(h0, .inr (7, [.ref h1, .int 0, .ref h2, .int 0, .int (-1), .null, .null, .null, .null, .null, .null, .null, .null, .null, .null])), (h1, .inl (k0, 4000, .inl (fun _ => 0))), (h2, .inl (k1, 50, .inl (fun _ => 0)))] H := hP
  have hD : va_D A [(h0, .inr (7, [.ref h1, .int 0, .ref h2, .int 0, .int (-1), .null, .null, .null, .null, .null, .null, .null, .null, .null, .null])), (h1, .inl (k0, 4000, .inl (fun _ => 0))), (h2, .inl (k1, 50, .inl (fun _ => 0)))] := hD
  refine lv_iload_n hx hb dX11_clear_10 rfl (lv_at hl 0 rfl) ?_
  refine W.widen (k := 0) (n := 0) (Nat.le_of_ble_eq_true rfl) (Nat.le_of_ble_eq_true rfl) ?_
  exact W.iret (v := 0) hx hb hr (fun t ht hW => ⟨⟨0, (), rfl, rfl, trivial⟩, hS.F ht⟩) hS.2.2 dX11_clear_11
set_option maxHeartbeats 4000000 in
set_option maxRecDepth 100000 in
theorem tX12_clear_n1 (l : Launch) (dC : Nat → ClassId) (dI : Nat → Nat → Nat) (h0 h1 h2 h3 h4 h5 h6 h7 h8 h9 h10 h11 h12 h13 j0 : Nat) (sz : Nat) (k0 k1 k2 k3 k4 k5 k6 k7 k8 k9 k10 k11 k12 : ClassId) (fs : List Value) (hF : MF fs [.ref j0, .ref h1, .int 0, .int 0, .ref h2, .ref h3, .ref h4, .int 0, .int 0, .int 0, .int (-1), .int (-1), .ref h5, .ref h6, .ref h7, .ref h8, .ref h9, .ref h10, .ref h11, .int 0, .int 0, .int 0, .int 0, .ref h13, .ref h12, .int 0]) : Met l yX12_clear (.code yX12_clear cX12_clear 2 (some .int) :: wP) ({ frames := 0, cells := 0, slots := 0, locals := 0 }) (Pz dC dI [.ref h0] sz [(h0, .inr (8, fs)), (h1, .inl (k0, 4000, .inl (fun _ => 0))), (h2, .inl (k1, 1203, .inl (fun _ => 0))), (h3, .inl (k2, 1203, .inl (fun _ => 0))), (h4, .inl (k3, 1203, .inl (fun _ => 0))), (h5, .inl (k4, 2, .inl (fun _ => 0))), (h6, .inl (k5, 2, .inl (fun _ => 0))), (h7, .inl (k6, 2, .inl (fun _ => 0))), (h8, .inl (k7, 2, .inl (fun _ => 0))), (h9, .inl (k8, 2, .inl (fun _ => 0))), (h10, .inl (k9, 2, .inl (fun _ => 0))), (h11, .inl (k10, 2, .inl (fun _ => 0))), (h12, .inl (k11, 50, .inl (fun _ => 0))), (h13, .inl (k12, 2, .inl (upd (fun _ => 0) (0 : Int32).toNatClampNeg (vp_nar .boolean 0))))] [(k0, .byte), (k1, .int), (k2, .int), (k3, .int), (k4, .int), (k5, .int), (k6, .int), (k7, .int), (k8, .int), (k9, .int), (k10, .int), (k11, .int), (k12, .boolean)]) (va_Qi (fun (r : Int32) (_ : Unit) => r = 0) (fun (_ : Unit) (_ : State) => True) (va_A [(h0, .inr (8, fs)), (h1, .inl (k0, 4000, .inl (fun _ => 0))), (h2, .inl (k1, 1203, .inl (fun _ => 0))), (h3, .inl (k2, 1203, .inl (fun _ => 0))), (h4, .inl (k3, 1203, .inl (fun _ => 0))), (h5, .inl (k4, 2, .inl (fun _ => 0))), (h6, .inl (k5, 2, .inl (fun _ => 0))), (h7, .inl (k6, 2, .inl (fun _ => 0))), (h8, .inl (k7, 2, .inl (fun _ => 0))), (h9, .inl (k8, 2, .inl (fun _ => 0))), (h10, .inl (k9, 2, .inl (fun _ => 0))), (h11, .inl (k10, 2, .inl (fun _ => 0))), (h12, .inl (k11, 50, .inl (fun _ => 0))), (h13, .inl (k12, 2, .inl (upd (fun _ => 0) (0 : Int32).toNatClampNeg (vp_nar .boolean 0))))] sz)) 0 0 (va_A [(h0, .inr (8, fs)), (h1, .inl (k0, 4000, .inl (fun _ => 0))), (h2, .inl (k1, 1203, .inl (fun _ => 0))), (h3, .inl (k2, 1203, .inl (fun _ => 0))), (h4, .inl (k3, 1203, .inl (fun _ => 0))), (h5, .inl (k4, 2, .inl (fun _ => 0))), (h6, .inl (k5, 2, .inl (fun _ => 0))), (h7, .inl (k6, 2, .inl (fun _ => 0))), (h8, .inl (k7, 2, .inl (fun _ => 0))), (h9, .inl (k8, 2, .inl (fun _ => 0))), (h10, .inl (k9, 2, .inl (fun _ => 0))), (h11, .inl (k10, 2, .inl (fun _ => 0))), (h12, .inl (k11, 50, .inl (fun _ => 0))), (h13, .inl (k12, 2, .inl (upd (fun _ => 0) (0 : Int32).toNatClampNeg (vp_nar .boolean 0))))] sz) := by
  refine Met.ofW (cc := cX12_clear) (maxL := 2) (ret := (some .int)) (by decide) rfl ?_
  intro p e s m args below meth c s₁ B hml hv
  obtain ⟨rfl, hsz, hP, hK, hD0⟩ := hv
  have hx := B.exec
  have hb := B.bytes
  have hr := B.returns
  have hts := atoms_spec (ws := .code yX12_clear cX12_clear 2 (some .int) :: wP) B.pre
  have hw : ∀ w ∈ wP, w.before _ s = true := fun w h => hts w (List.mem_cons_of_mem _ h)
  have hown : s.vm.findClass RX12 = some m.cls := findClass_of_methodNamed B.named
  have hlocks := B.notSynchronized
  subst hsz
  have hD := hD0.self (sz := s.heap.size)
  generalize hAe : va_A [(h0, .inr (8, fs)), (h1, .inl (k0, 4000, .inl (fun _ => 0))), (h2, .inl (k1, 1203, .inl (fun _ => 0))), (h3, .inl (k2, 1203, .inl (fun _ => 0))), (h4, .inl (k3, 1203, .inl (fun _ => 0))), (h5, .inl (k4, 2, .inl (fun _ => 0))), (h6, .inl (k5, 2, .inl (fun _ => 0))), (h7, .inl (k6, 2, .inl (fun _ => 0))), (h8, .inl (k7, 2, .inl (fun _ => 0))), (h9, .inl (k8, 2, .inl (fun _ => 0))), (h10, .inl (k9, 2, .inl (fun _ => 0))), (h11, .inl (k10, 2, .inl (fun _ => 0))), (h12, .inl (k11, 50, .inl (fun _ => 0))), (h13, .inl (k12, 2, .inl (upd (fun _ => 0) (0 : Int32).toNatClampNeg (vp_nar .boolean 0))))] s.heap.size = A at hD ⊢
  have hA : ∀ q : Nat, s.heap.size ≤ q → A q := fun q h => by rw [← hAe]; exact Or.inr h
  have hS : va_S A s.heap s.heap [] := va_S.rf
  have hP : va_P (dC, dI) vC [(h0, .inr (8, fs)), (h1, .inl (k0, 4000, .inl (fun _ => 0))), (h2, .inl (k1, 1203, .inl (fun _ => 0))), (h3, .inl (k2, 1203, .inl (fun _ => 0))), (h4, .inl (k3, 1203, .inl (fun _ => 0))), (h5, .inl (k4, 2, .inl (fun _ => 0))), (h6, .inl (k5, 2, .inl (fun _ => 0))), (h7, .inl (k6, 2, .inl (fun _ => 0))), (h8, .inl (k7, 2, .inl (fun _ => 0))), (h9, .inl (k8, 2, .inl (fun _ => 0))), (h10, .inl (k9, 2, .inl (fun _ => 0))), (h11, .inl (k10, 2, .inl (fun _ => 0))), (h12, .inl (k11, 50, .inl (fun _ => 0))), (h13, .inl (k12, 2, .inl (upd (fun _ => 0) (0 : Int32).toNatClampNeg (vp_nar .boolean 0))))] s.heap := hP
  have hl := lv_entry ([.ref h0]) (n := 2) (Nat.le_of_ble_eq_true rfl)
  rw [lg_entry_eq]
  generalize (lg_sl ([.ref h0]) ++ List.replicate (2 - (lg_sl ([.ref h0])).length) Slot.unset).toArray = ls at hl ⊢
  have hl : lv_has ls 2 [(0, .ref h0)] := hl
  refine lv_aload_n hx hb dX12_clear_0 rfl (lv_at hl 0 rfl) ?_
  refine va_get (D := (dC, dI)) (ci := 8) (v := .int 0) (C := RX12) (T := TX12) (N := 105) hx hb hw inX12 hown hK hP 0 rfl rfl 93 (by decide) (hw _ mP_524) (fun _ h9 => h9) (hF.get 25 rfl rfl) dX12_clear_1 ?_
  refine lv_istore_n (lv' := [(1, .int 0), (0, .ref h0)]) hx hb dX12_clear_4 rfl hl (by decide) rfl (fun ls hl => ?_)
  refine lv_aload_n hx hb dX12_clear_5 rfl (lv_at hl 1 rfl) ?_
  refine lv_iconst (v := 0) hx hb dX12_clear_6 (by decide) ?_
  refine va_put (D := (dC, dI)) (ci := 8) (v := .int 0) (ty := .int) (C := RX12) (T := TX12) (N := 105) hx hb hw inX12 tyX12 tyX12_ok nmX12 hown hK hP hD hS 0 rfl rfl 93 (by decide) (hw _ mP_524) (fun _ h9 => h9) rfl (tyX12_ok 93 (by decide)) rfl rfl (hF.len (Nat.le_of_ble_eq_true rfl)) dX12_clear_7 (fun H locs hP hD hS => ?_)
  obtain ⟨fs1, hF, hP, hD⟩ : ∃ fs1 : List Value, MF fs1 [.ref j0, .ref h1, .int 0, .int 0, .ref h2, .ref h3, .ref h4, .int 0, .int 0, .int 0, .int (-1), .int (-1), .ref h5, .ref h6, .ref h7, .ref h8, .ref h9, .ref h10, .ref h11, .int 0, .int 0, .int 0, .int 0, .ref h13, .ref h12, .int 0] ∧ va_P (dC, dI) vC [(h0, .inr (8, fs1)), (h1, .inl (k0, 4000, .inl (fun _ => 0))), (h2, .inl (k1, 1203, .inl (fun _ => 0))), (h3, .inl (k2, 1203, .inl (fun _ => 0))), (h4, .inl (k3, 1203, .inl (fun _ => 0))), (h5, .inl (k4, 2, .inl (fun _ => 0))), (h6, .inl (k5, 2, .inl (fun _ => 0))), (h7, .inl (k6, 2, .inl (fun _ => 0))), (h8, .inl (k7, 2, .inl (fun _ => 0))), (h9, .inl (k8, 2, .inl (fun _ => 0))), (h10, .inl (k9, 2, .inl (fun _ => 0))), (h11, .inl (k10, 2, .inl (fun _ => 0))), (h12, .inl (k11, 50, .inl (fun _ => 0))), (h13, .inl (k12, 2, .inl (upd (fun _ => 0) (0 : Int32).toNatClampNeg (vp_nar .boolean 0))))] H ∧ va_D A [(h0, .inr (8, fs1)), (h1, .inl (k0, 4000, .inl (fun _ => 0))), (h2, .inl (k1, 1203, .inl (fun _ => 0))), (h3, .inl (k2, 1203, .inl (fun _ => 0))), (h4, .inl (k3, 1203, .inl (fun _ => 0))), (h5, .inl (k4, 2, .inl (fun _ => 0))), (h6, .inl (k5, 2, .inl (fun _ => 0))), (h7, .inl (k6, 2, .inl (fun _ => 0))), (h8, .inl (k7, 2, .inl (fun _ => 0))), (h9, .inl (k8, 2, .inl (fun _ => 0))), (h10, .inl (k9, 2, .inl (fun _ => 0))), (h11, .inl (k10, 2, .inl (fun _ => 0))), (h12, .inl (k11, 50, .inl (fun _ => 0))), (h13, .inl (k12, 2, .inl (upd (fun _ => 0) (0 : Int32).toNatClampNeg (vp_nar .boolean 0))))] := ⟨_, hF.put 25 rfl, hP, hD⟩
  refine lv_iload_n hx hb dX12_clear_10 rfl (lv_at hl 0 rfl) ?_
  refine W.widen (k := 0) (n := 0) (Nat.le_of_ble_eq_true rfl) (Nat.le_of_ble_eq_true rfl) ?_
  exact W.iret (v := 0) hx hb hr (fun t ht hW => ⟨⟨0, (), rfl, rfl, trivial⟩, hS.F ht⟩) hS.2.2 dX12_clear_11
set_option maxHeartbeats 4000000 in
set_option maxRecDepth 100000 in
theorem tX11_run_n1 (l : Launch) (dC : Nat → ClassId) (dI : Nat → Nat → Nat) (h0 h1 h2 : Nat) (sz : Nat) (k0 k1 : ClassId) (x0 : Int32) : Met l yX11_run (.code yX11_run cX11_run 3 (some .int) :: wP) ({ frames := 0, cells := 0, slots := 0, locals := 0 }) (Pz dC dI [.ref h0, .int 0, .int x0] sz [(h0, .inr (7, [.ref h1, .int 0, .ref h2, .int 0, .int (-1), .null, .null, .null, .null, .null, .null, .null, .null, .null, .null])), (h1, .inl (k0, 4000, .inl (fun _ => 0))), (h2, .inl (k1, 50, .inl (fun _ => 0)))] [(k0, .byte), (k1, .int)]) (va_Qi (fun (r : Int32) (_ : Unit) => r = (-1)) (fun (_ : Unit) (_ : State) => True) (va_A [(h0, .inr (7, [.ref h1, .int 0, .ref h2, .int 0, .int (-1), .null, .null, .null, .null, .null, .null, .null, .null, .null, .null])), (h1, .inl (k0, 4000, .inl (fun _ => 0))), (h2, .inl (k1, 50, .inl (fun _ => 0)))] sz)) 0 0 (va_A [(h0, .inr (7, [.ref h1, .int 0, .ref h2, .int 0, .int (-1), .null, .null, .null, .null, .null, .null, .null, .null, .null, .null])), (h1, .inl (k0, 4000, .inl (fun _ => 0))), (h2, .inl (k1, 50, .inl (fun _ => 0)))] sz) := by
  refine Met.ofW (cc := cX11_run) (maxL := 3) (ret := (some .int)) (by decide) rfl ?_
  intro p e s m args below meth c s₁ B hml hv
  obtain ⟨rfl, hsz, hP, hK, hD0⟩ := hv
  have hx := B.exec
  have hb := B.bytes
  have hr := B.returns
  have hts := atoms_spec (ws := .code yX11_run cX11_run 3 (some .int) :: wP) B.pre
  have hw : ∀ w ∈ wP, w.before _ s = true := fun w h => hts w (List.mem_cons_of_mem _ h)
  have hown : s.vm.findClass RX11 = some m.cls := findClass_of_methodNamed B.named
  have hlocks := B.notSynchronized
  subst hsz
  have hD := hD0.self (sz := s.heap.size)
  generalize hAe : va_A [(h0, .inr (7, [.ref h1, .int 0, .ref h2, .int 0, .int (-1), .null, .null, .null, .null, .null, .null, .null, .null, .null, .null])), (h1, .inl (k0, 4000, .inl (fun _ => 0))), (h2, .inl (k1, 50, .inl (fun _ => 0)))] s.heap.size = A at hD ⊢
  have hA : ∀ q : Nat, s.heap.size ≤ q → A q := fun q h => by rw [← hAe]; exact Or.inr h
  have hS : va_S A s.heap s.heap [] := va_S.rf
  have hP : va_P (dC, dI) vC [(h0, .inr (7, [.ref h1, .int 0, .ref h2, .int 0, .int (-1), .null, .null, .null, .null, .null, .null, .null, .null, .null, .null])), (h1, .inl (k0, 4000, .inl (fun _ => 0))), (h2, .inl (k1, 50, .inl (fun _ => 0)))] s.heap := hP
  have hl := lv_entry ([.ref h0, .int 0, .int x0]) (n := 3) (Nat.le_of_ble_eq_true rfl)
  rw [lg_entry_eq]
  generalize (lg_sl ([.ref h0, .int 0, .int x0]) ++ List.replicate (3 - (lg_sl ([.ref h0, .int 0, .int x0])).length) Slot.unset).toArray = ls at hl ⊢
  have hl : lv_has ls 3 [(0, .ref h0), (1, .int 0), (2, .int x0)] := hl
  refine lv_aload_n hx hb dX11_run_0 rfl (lv_at hl 0 rfl) ?_
  refine va_get (D := (dC, dI)) (ci := 7) (v := .null) (C := RX11) (T := TX11) (N := 15) hx hb hw inX11 hown hK hP 0 rfl rfl 8 (by decide) (hw _ mP_415) (fun _ h9 => h9) rfl dX11_run_1 ?_
  refine lv_ifnullN (tgt := 19) hx hb dX11_run_4 (by decide) ?_
  refine lv_iconst (v := (-1)) hx hb dX11_run_19 (by decide) ?_
  refine W.widen (k := 0) (n := 0) (Nat.le_of_ble_eq_true rfl) (Nat.le_of_ble_eq_true rfl) ?_
  exact W.iret (v := (-1)) hx hb hr (fun t ht hW => ⟨⟨(-1), (), rfl, rfl, trivial⟩, hS.F ht⟩) hS.2.2 dX11_run_20
set_option maxHeartbeats 4000000 in
set_option maxRecDepth 100000 in
theorem tX12_run_n1 (l : Launch) (dC : Nat → ClassId) (dI : Nat → Nat → Nat) (h0 h1 h2 h3 h4 h5 h6 h7 h8 h9 h10 h11 h12 h13 j0 : Nat) (sz : Nat) (k0 k1 k2 k3 k4 k5 k6 k7 k8 k9 k10 k11 k12 : ClassId) (x0 : Int32) (fs : List Value) (hF : MF fs [.ref j0, .ref h1, .int 0, .int 0, .ref h2, .ref h3, .ref h4, .int 0, .int 0, .int 0, .int (-1), .int (-1), .ref h5, .ref h6, .ref h7, .ref h8, .ref h9, .ref h10, .ref h11, .int 0, .int 0, .int 0, .int 0, .ref h13, .ref h12, .int 0]) : Met l yX12_run (.code yX12_run cX12_run 5 (some .int) :: wP) ({ frames := 0, cells := 0, slots := 0, locals := 0 }) (Pz dC dI [.ref h0, .int 0, .int x0] sz [(h0, .inr (8, fs)), (h1, .inl (k0, 4000, .inl (fun _ => 0))), (h2, .inl (k1, 1203, .inl (fun _ => 0))), (h3, .inl (k2, 1203, .inl (fun _ => 0))), (h4, .inl (k3, 1203, .inl (fun _ => 0))), (h5, .inl (k4, 2, .inl (fun _ => 0))), (h6, .inl (k5, 2, .inl (fun _ => 0))), (h7, .inl (k6, 2, .inl (fun _ => 0))), (h8, .inl (k7, 2, .inl (fun _ => 0))), (h9, .inl (k8, 2, .inl (fun _ => 0))), (h10, .inl (k9, 2, .inl (fun _ => 0))), (h11, .inl (k10, 2, .inl (fun _ => 0))), (h12, .inl (k11, 50, .inl (fun _ => 0))), (h13, .inl (k12, 2, .inl (upd (fun _ => 0) (0 : Int32).toNatClampNeg (vp_nar .boolean 0))))] [(k0, .byte), (k1, .int), (k2, .int), (k3, .int), (k4, .int), (k5, .int), (k6, .int), (k7, .int), (k8, .int), (k9, .int), (k10, .int), (k11, .int), (k12, .boolean)]) (va_Qi (fun (r : Int32) (_ : Unit) => r = (-1)) (fun (_ : Unit) (_ : State) => True) (va_A [(h0, .inr (8, fs)), (h1, .inl (k0, 4000, .inl (fun _ => 0))), (h2, .inl (k1, 1203, .inl (fun _ => 0))), (h3, .inl (k2, 1203, .inl (fun _ => 0))), (h4, .inl (k3, 1203, .inl (fun _ => 0))), (h5, .inl (k4, 2, .inl (fun _ => 0))), (h6, .inl (k5, 2, .inl (fun _ => 0))), (h7, .inl (k6, 2, .inl (fun _ => 0))), (h8, .inl (k7, 2, .inl (fun _ => 0))), (h9, .inl (k8, 2, .inl (fun _ => 0))), (h10, .inl (k9, 2, .inl (fun _ => 0))), (h11, .inl (k10, 2, .inl (fun _ => 0))), (h12, .inl (k11, 50, .inl (fun _ => 0))), (h13, .inl (k12, 2, .inl (upd (fun _ => 0) (0 : Int32).toNatClampNeg (vp_nar .boolean 0))))] sz)) 0 0 (va_A [(h0, .inr (8, fs)), (h1, .inl (k0, 4000, .inl (fun _ => 0))), (h2, .inl (k1, 1203, .inl (fun _ => 0))), (h3, .inl (k2, 1203, .inl (fun _ => 0))), (h4, .inl (k3, 1203, .inl (fun _ => 0))), (h5, .inl (k4, 2, .inl (fun _ => 0))), (h6, .inl (k5, 2, .inl (fun _ => 0))), (h7, .inl (k6, 2, .inl (fun _ => 0))), (h8, .inl (k7, 2, .inl (fun _ => 0))), (h9, .inl (k8, 2, .inl (fun _ => 0))), (h10, .inl (k9, 2, .inl (fun _ => 0))), (h11, .inl (k10, 2, .inl (fun _ => 0))), (h12, .inl (k11, 50, .inl (fun _ => 0))), (h13, .inl (k12, 2, .inl (upd (fun _ => 0) (0 : Int32).toNatClampNeg (vp_nar .boolean 0))))] sz) := by
  refine Met.ofW (cc := cX12_run) (maxL := 5) (ret := (some .int)) (by decide) rfl ?_
  intro p e s m args below meth c s₁ B hml hv
  obtain ⟨rfl, hsz, hP, hK, hD0⟩ := hv
  have hx := B.exec
  have hb := B.bytes
  have hr := B.returns
  have hts := atoms_spec (ws := .code yX12_run cX12_run 5 (some .int) :: wP) B.pre
  have hw : ∀ w ∈ wP, w.before _ s = true := fun w h => hts w (List.mem_cons_of_mem _ h)
  have hown : s.vm.findClass RX12 = some m.cls := findClass_of_methodNamed B.named
  have hlocks := B.notSynchronized
  subst hsz
  have hD := hD0.self (sz := s.heap.size)
  generalize hAe : va_A [(h0, .inr (8, fs)), (h1, .inl (k0, 4000, .inl (fun _ => 0))), (h2, .inl (k1, 1203, .inl (fun _ => 0))), (h3, .inl (k2, 1203, .inl (fun _ => 0))), (h4, .inl (k3, 1203, .inl (fun _ => 0))), (h5, .inl (k4, 2, .inl (fun _ => 0))), (h6, .inl (k5, 2, .inl (fun _ => 0))), (h7, .inl (k6, 2, .inl (fun _ => 0))), (h8, .inl (k7, 2, .inl (fun _ => 0))), (h9, .inl (k8, 2, .inl (fun _ => 0))), (h10, .inl (k9, 2, .inl (fun _ => 0))), (h11, .inl (k10, 2, .inl (fun _ => 0))), (h12, .inl (k11, 50, .inl (fun _ => 0))), (h13, .inl (k12, 2, .inl (upd (fun _ => 0) (0 : Int32).toNatClampNeg (vp_nar .boolean 0))))] s.heap.size = A at hD ⊢
  have hA : ∀ q : Nat, s.heap.size ≤ q → A q := fun q h => by rw [← hAe]; exact Or.inr h
  have hS : va_S A s.heap s.heap [] := va_S.rf
  have hP : va_P (dC, dI) vC [(h0, .inr (8, fs)), (h1, .inl (k0, 4000, .inl (fun _ => 0))), (h2, .inl (k1, 1203, .inl (fun _ => 0))), (h3, .inl (k2, 1203, .inl (fun _ => 0))), (h4, .inl (k3, 1203, .inl (fun _ => 0))), (h5, .inl (k4, 2, .inl (fun _ => 0))), (h6, .inl (k5, 2, .inl (fun _ => 0))), (h7, .inl (k6, 2, .inl (fun _ => 0))), (h8, .inl (k7, 2, .inl (fun _ => 0))), (h9, .inl (k8, 2, .inl (fun _ => 0))), (h10, .inl (k9, 2, .inl (fun _ => 0))), (h11, .inl (k10, 2, .inl (fun _ => 0))), (h12, .inl (k11, 50, .inl (fun _ => 0))), (h13, .inl (k12, 2, .inl (upd (fun _ => 0) (0 : Int32).toNatClampNeg (vp_nar .boolean 0))))] s.heap := hP
  have hl := lv_entry ([.ref h0, .int 0, .int x0]) (n := 5) (Nat.le_of_ble_eq_true rfl)
  rw [lg_entry_eq]
  generalize (lg_sl ([.ref h0, .int 0, .int x0]) ++ List.replicate (5 - (lg_sl ([.ref h0, .int 0, .int x0])).length) Slot.unset).toArray = ls at hl ⊢
  have hl : lv_has ls 5 [(0, .ref h0), (1, .int 0), (2, .int x0)] := hl
  refine lv_iload_n hx hb dX12_run_0 rfl (lv_at hl 2 rfl) ?_
  refine lv_iconst (v := 1) hx hb dX12_run_1 (by decide) ?_
  refine lv_icmp_lt (tgt := 33) hx hb dX12_run_2 (by decide) (fun c1 => ?_) (fun c1 => ?_)
  · refine lv_iconst (v := (-1)) hx hb dX12_run_33 (by decide) ?_
    refine W.widen (k := 0) (n := 0) (Nat.le_of_ble_eq_true rfl) (Nat.le_of_ble_eq_true rfl) ?_
    exact W.iret (v := (-1)) hx hb hr (fun t ht hW => ⟨⟨(-1), (), rfl, rfl, trivial⟩, hS.F ht⟩) hS.2.2 dX12_run_34
  · refine lv_iload_n hx hb dX12_run_5 rfl (lv_at hl 2 rfl) ?_
    refine lv_sipush (v := 5000) hx hb dX12_run_6 (by decide) ?_
    refine lv_icmp_gt (tgt := 33) hx hb dX12_run_9 (by decide) (fun c2 => ?_) (fun c2 => ?_)
    · refine lv_iconst (v := (-1)) hx hb dX12_run_33 (by decide) ?_
      refine W.widen (k := 0) (n := 0) (Nat.le_of_ble_eq_true rfl) (Nat.le_of_ble_eq_true rfl) ?_
      exact W.iret (v := (-1)) hx hb hr (fun t ht hW => ⟨⟨(-1), (), rfl, rfl, trivial⟩, hS.F ht⟩) hS.2.2 dX12_run_34
    · refine lv_iload_n hx hb dX12_run_12 rfl (lv_at hl 1 rfl) ?_
      refine lv_if_eq (tgt := 26) hx hb dX12_run_13 (by decide) (fun _ => ?_) (fun c => absurd (by decide +kernel) c)
      refine lv_aload_n hx hb dX12_run_26 rfl (lv_at hl 0 rfl) ?_
      refine va_get (D := (dC, dI)) (ci := 8) (v := .int 0) (C := RX12) (T := TX12) (N := 105) hx hb hw inX12 hown hK hP 0 rfl rfl 46 (by decide) (hw _ mP_402) (fun _ h9 => h9) (hF.get 20 rfl rfl) dX12_run_27 ?_
      refine lv_if_ne (tgt := 35) hx hb dX12_run_30 (by decide) (fun c => absurd (by decide +kernel) c) (fun _ => ?_)
      refine lv_iconst (v := (-1)) hx hb dX12_run_33 (by decide) ?_
      refine W.widen (k := 0) (n := 0) (Nat.le_of_ble_eq_true rfl) (Nat.le_of_ble_eq_true rfl) ?_
      exact W.iret (v := (-1)) hx hb hr (fun t ht hW => ⟨⟨(-1), (), rfl, rfl, trivial⟩, hS.F ht⟩) hS.2.2 dX12_run_34
