set_option maxHeartbeats 4000000 in
set_option maxRecDepth 100000 in
theorem tX11_countRows_n1 (l : Launch) (dC : Nat → ClassId) (dI : Nat → Nat → Nat) (h0 h1 h2 : Nat) (sz : Nat) (k0 k1 : ClassId) (x0 : Int32) : Met l yX11_countRows (.code yX11_countRows cX11_countRows 2 (some .int) :: wP) ({ frames := 0, cells := 0, slots := 0, locals := 0 }) (Pz dC dI [.ref h0, .int x0] sz [(h0, .inr (7, [.ref h1, .int 0, .ref h2, .int 0, .int (-1), .null, .null, .null, .null, .null, .null, .null, .null, .null, .null])), (h1, .inl (k0, 4000, .inl (fun _ => 0))), (h2, .inl (k1, 50, .inl (fun _ => 0)))] [(k0, .byte), (k1, .int)]) (va_Qi (fun (r : Int32) (_ : Unit) => r = 0) (fun (_ : Unit) (t : State) => va_P (dC, dI) vC [(h0, .inr (7, [.ref h1, .int 0, .ref h2, .int 0, .int (-1), .null, .null, .null, .null, .null, .null, .null, .null, .null, .null])), (h1, .inl (k0, 4000, .inl (fun _ => 0))), (h2, .inl (k1, 50, .inl (fun _ => 0)))] t.heap ∧ va_K (dC, dI) vC [(k0, .byte), (k1, .int)] t ∧ va_D (va_A [(h0, .inr (7, [.ref h1, .int 0, .ref h2, .int 0, .int (-1), .null, .null, .null, .null, .null, .null, .null, .null, .null, .null])), (h1, .inl (k0, 4000, .inl (fun _ => 0))), (h2, .inl (k1, 50, .inl (fun _ => 0)))] sz) [(h0, .inr (7, [.ref h1, .int 0, .ref h2, .int 0, .int (-1), .null, .null, .null, .null, .null, .null, .null, .null, .null, .null])), (h1, .inl (k0, 4000, .inl (fun _ => 0))), (h2, .inl (k1, 50, .inl (fun _ => 0)))]) (va_A [(h0, .inr (7, [.ref h1, .int 0, .ref h2, .int 0, .int (-1), .null, .null, .null, .null, .null, .null, .null, .null, .null, .null])), (h1, .inl (k0, 4000, .inl (fun _ => 0))), (h2, .inl (k1, 50, .inl (fun _ => 0)))] sz)) 0 0 (va_A [(h0, .inr (7, [.ref h1, .int 0, .ref h2, .int 0, .int (-1), .null, .null, .null, .null, .null, .null, .null, .null, .null, .null])), (h1, .inl (k0, 4000, .inl (fun _ => 0))), (h2, .inl (k1, 50, .inl (fun _ => 0)))] sz) := by
  refine Met.ofW (cc := cX11_countRows) (maxL := 2) (ret := (some .int)) (by decide) rfl ?_
  intro p e s m args below meth c s₁ B hml hv
  obtain ⟨rfl, hsz, hP, hK, hD0⟩ := hv
  have hx := B.exec
  have hb := B.bytes
  have hr := B.returns
  have hts := atoms_spec (ws := .code yX11_countRows cX11_countRows 2 (some .int) :: wP) B.pre
  have hw : ∀ w ∈ wP, w.before _ s = true := fun w h => hts w (List.mem_cons_of_mem _ h)
  have hown : s.vm.findClass RX11 = some m.cls := findClass_of_methodNamed B.named
  have hlocks := B.notSynchronized
  subst hsz
  have hD := hD0.self (sz := s.heap.size)
  generalize hAe : va_A [(h0, .inr (7, [.ref h1, .int 0, .ref h2, .int 0, .int (-1), .null, .null, .null, .null, .null, .null, .null, .null, .null, .null])), (h1, .inl (k0, 4000, .inl (fun _ => 0))), (h2, .inl (k1, 50, .inl (fun _ => 0)))] s.heap.size = A at hD ⊢
  have hA : ∀ q : Nat, s.heap.size ≤ q → A q := fun q h => by rw [← hAe]; exact Or.inr h
  have hS : va_S A s.heap s.heap [] := va_S.rf
  have hP : va_P (dC, dI) vC [(h0, .inr (7, [.ref h1, .int 0, .ref h2, .int 0, .int (-1), .null, .null, .null, .null, .null, .null, .null, .null, .null, .null])), (h1, .inl (k0, 4000, .inl (fun _ => 0))), (h2, .inl (k1, 50, .inl (fun _ => 0)))] s.heap := hP
  have hl := lv_entry ([.ref h0, .int x0]) (n := 2) (Nat.le_of_ble_eq_true rfl)
  rw [lg_entry_eq]
  generalize (lg_sl ([.ref h0, .int x0]) ++ List.replicate (2 - (lg_sl ([.ref h0, .int x0])).length) Slot.unset).toArray = ls at hl ⊢
  have hl : lv_has ls 2 [(0, .ref h0), (1, .int x0)] := hl
  refine lv_aload_n hx hb dX11_countRows_0 rfl (lv_at hl 0 rfl) ?_
  refine va_get (D := (dC, dI)) (ci := 7) (v := .null) (C := RX11) (T := TX11) (N := 15) hx hb hw inX11 hown hK hP 0 rfl rfl 12 (by decide) (hw _ mP_509) (fun _ h9 => h9) rfl dX11_countRows_1 ?_
  refine lv_ifnonnullN hx hb dX11_countRows_4 ?_
  refine lv_iconst (v := 0) hx hb dX11_countRows_7 (by decide) ?_
  refine W.widen (k := 0) (n := 0) (Nat.le_of_ble_eq_true rfl) (Nat.le_of_ble_eq_true rfl) ?_
  exact W.iret (v := 0) hx hb hr (fun t ht hW => ⟨⟨0, (), rfl, rfl, by rw [ht]; exact hP, va_K.moved hW.alike hK, hD⟩, hS.F ht⟩) hS.2.2 dX11_countRows_8
set_option maxHeartbeats 4000000 in
set_option maxRecDepth 100000 in
theorem tX11_count_n1 (l : Launch) (dC : Nat → ClassId) (dI : Nat → Nat → Nat) (h0 h1 h2 : Nat) (sz : Nat) (k0 k1 : ClassId) (x0 : Int32) : Met l yX11_count (.code yX11_count cX11_count 2 (some .int) :: wP) ({ frames := 1, cells := 0, slots := 0, locals := 21 }) (Pz dC dI [.ref h0, .int x0] sz [(h0, .inr (7, [.ref h1, .int 0, .ref h2, .int 0, .int (-1), .null, .null, .null, .null, .null, .null, .null, .null, .null, .null])), (h1, .inl (k0, 4000, .inl (fun _ => 0))), (h2, .inl (k1, 50, .inl (fun _ => 0)))] [(k0, .byte), (k1, .int)]) (va_Qi (fun (r : Int32) (_ : Unit) => r = fCount x0) (fun (_ : Unit) (_ : State) => True) (va_A [(h0, .inr (7, [.ref h1, .int 0, .ref h2, .int 0, .int (-1), .null, .null, .null, .null, .null, .null, .null, .null, .null, .null])), (h1, .inl (k0, 4000, .inl (fun _ => 0))), (h2, .inl (k1, 50, .inl (fun _ => 0)))] sz)) 0 0 (va_A [(h0, .inr (7, [.ref h1, .int 0, .ref h2, .int 0, .int (-1), .null, .null, .null, .null, .null, .null, .null, .null, .null, .null])), (h1, .inl (k0, 4000, .inl (fun _ => 0))), (h2, .inl (k1, 50, .inl (fun _ => 0)))] sz) := by
  refine Met.ofW (cc := cX11_count) (maxL := 2) (ret := (some .int)) (by decide) rfl ?_
  intro p e s m args below meth c s₁ B hml hv
  obtain ⟨rfl, hsz, hP, hK, hD0⟩ := hv
  have hx := B.exec
  have hb := B.bytes
  have hr := B.returns
  have hts := atoms_spec (ws := .code yX11_count cX11_count 2 (some .int) :: wP) B.pre
  have hw : ∀ w ∈ wP, w.before _ s = true := fun w h => hts w (List.mem_cons_of_mem _ h)
  have hown : s.vm.findClass RX11 = some m.cls := findClass_of_methodNamed B.named
  have hlocks := B.notSynchronized
  subst hsz
  have hD := hD0.self (sz := s.heap.size)
  generalize hAe : va_A [(h0, .inr (7, [.ref h1, .int 0, .ref h2, .int 0, .int (-1), .null, .null, .null, .null, .null, .null, .null, .null, .null, .null])), (h1, .inl (k0, 4000, .inl (fun _ => 0))), (h2, .inl (k1, 50, .inl (fun _ => 0)))] s.heap.size = A at hD ⊢
  have hA : ∀ q : Nat, s.heap.size ≤ q → A q := fun q h => by rw [← hAe]; exact Or.inr h
  have hS : va_S A s.heap s.heap [] := va_S.rf
  have hP : va_P (dC, dI) vC [(h0, .inr (7, [.ref h1, .int 0, .ref h2, .int 0, .int (-1), .null, .null, .null, .null, .null, .null, .null, .null, .null, .null])), (h1, .inl (k0, 4000, .inl (fun _ => 0))), (h2, .inl (k1, 50, .inl (fun _ => 0)))] s.heap := hP
  have hl := lv_entry ([.ref h0, .int x0]) (n := 2) (Nat.le_of_ble_eq_true rfl)
  rw [lg_entry_eq]
  generalize (lg_sl ([.ref h0, .int x0]) ++ List.replicate (2 - (lg_sl ([.ref h0, .int x0])).length) Slot.unset).toArray = ls at hl ⊢
  have hl : lv_has ls 2 [(0, .ref h0), (1, .int x0)] := hl
  refine lv_iload_n hx hb dX11_count_0 rfl (lv_at hl 1 rfl) ?_
  refine lv_if_lt (tgt := 10) hx hb dX11_count_1 (by decide) (fun c1 => ?_) (fun c1 => ?_)
  · refine lv_iconst (v := (-1)) hx hb dX11_count_10 (by decide) ?_
    refine W.widen (k := 0) (n := 0) (Nat.le_of_ble_eq_true rfl) (Nat.le_of_ble_eq_true rfl) ?_
    exact W.iret (v := (-1)) hx hb hr (fun t ht hW => ⟨⟨(-1), (), rfl, (by unfold fCount; rw [if_pos c1]), trivial⟩, hS.F ht⟩) hS.2.2 dX11_count_11
  · refine lv_iload_n hx hb dX11_count_4 rfl (lv_at hl 1 rfl) ?_
    refine lv_bipush (v := 12) hx hb dX11_count_5 (by decide) ?_
    refine lv_icmp_le (tgt := 12) hx hb dX11_count_7 (by decide) (fun c2 => ?_) (fun c2 => ?_)
    · refine lv_iload_n hx hb dX11_count_12 rfl (lv_at hl 1 rfl) ?_
      refine lv_bipush (v := 12) hx hb dX11_count_13 (by decide) ?_
      refine lv_icmp_ne (tgt := 23) hx hb dX11_count_15 (by decide) (fun c3 => ?_) (fun c3 => ?_)
      · refine lv_iload_n hx hb dX11_count_23 rfl (lv_at hl 1 rfl) ?_
        refine lv_bipush (v := 7) hx hb dX11_count_24 (by decide) ?_
        refine lv_icmp_lt (tgt := 41) hx hb dX11_count_26 (by decide) (fun c4 => ?_) (fun c4 => ?_)
        · refine lv_aload_n hx hb dX11_count_41 rfl (lv_at hl 0 rfl) ?_
          refine va_get (D := (dC, dI)) (ci := 7) (v := .null) (C := RX11) (T := TX11) (N := 15) hx hb hw inX11 hown hK hP 0 rfl rfl 8 (by decide) (hw _ mP_415) (fun _ h9 => h9) rfl dX11_count_42 ?_
          refine lv_ifnonnullN hx hb dX11_count_45 ?_
          refine lv_iconst (v := 0) hx hb dX11_count_48 (by decide) ?_
          refine lv_goto (tgt := 60) hx hb dX11_count_49 (by decide) ?_
          refine W.widen (k := 0) (n := 0) (Nat.le_of_ble_eq_true rfl) (Nat.le_of_ble_eq_true rfl) ?_
          exact W.iret (v := 0) hx hb hr (fun t ht hW => ⟨⟨0, (), rfl, (by unfold fCount; rw [if_neg c1, if_pos c2]), trivial⟩, hS.F ht⟩) hS.2.2 dX11_count_60
        · refine lv_iload_n hx hb dX11_count_29 rfl (lv_at hl 1 rfl) ?_
          refine lv_bipush (v := 10) hx hb dX11_count_30 (by decide) ?_
          refine lv_icmp_gt (tgt := 41) hx hb dX11_count_32 (by decide) (fun c5 => ?_) (fun c5 => ?_)
          · refine lv_aload_n hx hb dX11_count_41 rfl (lv_at hl 0 rfl) ?_
            refine va_get (D := (dC, dI)) (ci := 7) (v := .null) (C := RX11) (T := TX11) (N := 15) hx hb hw inX11 hown hK hP 0 rfl rfl 8 (by decide) (hw _ mP_415) (fun _ h9 => h9) rfl dX11_count_42 ?_
            refine lv_ifnonnullN hx hb dX11_count_45 ?_
            refine lv_iconst (v := 0) hx hb dX11_count_48 (by decide) ?_
            refine lv_goto (tgt := 60) hx hb dX11_count_49 (by decide) ?_
            refine W.widen (k := 0) (n := 0) (Nat.le_of_ble_eq_true rfl) (Nat.le_of_ble_eq_true rfl) ?_
            exact W.iret (v := 0) hx hb hr (fun t ht hW => ⟨⟨0, (), rfl, (by unfold fCount; rw [if_neg c1, if_pos c2]), trivial⟩, hS.F ht⟩) hS.2.2 dX11_count_60
          · refine lv_aload_n hx hb dX11_count_35 rfl (lv_at hl 0 rfl) ?_
            refine lv_iload_n hx hb dX11_count_36 rfl (lv_at hl 1 rfl) ?_
            have hPc := hP.sub (ws' := [(h0, .inr (7, [.ref h1, .int 0, .ref h2, .int 0, .int (-1), .null, .null, .null, .null, .null, .null, .null, .null, .null, .null])), (h1, .inl (k0, 4000, .inl (fun _ => 0))), (h2, .inl (k1, 50, .inl (fun _ => 0)))]) [0, 1, 2] rfl
            have hDc := hD.sub (ws' := [(h0, .inr (7, [.ref h1, .int 0, .ref h2, .int 0, .int (-1), .null, .null, .null, .null, .null, .null, .null, .null, .null, .null])), (h1, .inl (k0, 4000, .inl (fun _ => 0))), (h2, .inl (k1, 50, .inl (fun _ => 0)))]) [0, 1, 2] (by decide) rfl
            have hKc := hK.sub (tys' := [(k0, .byte), (k1, .int)]) [0, 1] rfl
            have hFc := va_free (wc := [(h0, .inr (7, [.ref h1, .int 0, .ref h2, .int 0, .int (-1), .null, .null, .null, .null, .null, .null, .null, .null, .null, .null])), (h1, .inl (k0, 4000, .inl (fun _ => 0))), (h2, .inl (k1, 50, .inl (fun _ => 0)))]) hD hS hA [0, 1, 2] rfl
            refine va_calli (va_runV (As := [.int x0]) (rest := []) ⟨hx, hb, hml, hown, hw⟩ (tX11_countRows_n1 l dC dI h0 h1 h2 s.heap.size k0 k1 x0) ⟨callB_of 1 hw (gd mP_571) rfl rfl rfl (hw _ mP_26) (hw _ mP_572) hdX11_countRows ⟨Nat.le_of_ble_eq_true rfl, Nat.le_of_ble_eq_true rfl⟩, (hw _ mP_573), (hw _ mP_574)⟩ ⟨fbz, va_recv hKc hPc (ci := 7) (q0 := 0) rfl rfl, prz hPc hKc hDc⟩ rfl rfl hl.1 rfl (lv_room (Nat.le_of_ble_eq_true rfl)) dX11_count_37 ⟨Nat.le_of_ble_eq_true rfl, Nat.le_of_ble_eq_true rfl⟩) hS (fun q _ h => hFc q h) hFc (fun r6 u6 t H1 locs ht hvm hpo hB hz1 hk1 hS => ?_)
            obtain ⟨hP1, hK1, hD1⟩ := hB
            rw [ht] at hP1
            have hK1 := va_K.moved hvm.symm hK1
            obtain ⟨hP, hD⟩ := va_join (wr := []) (w1 := [(h0, .inr (7, [.ref h1, .int 0, .ref h2, .int 0, .int (-1), .null, .null, .null, .null, .null, .null, .null, .null, .null, .null])), (h1, .inl (k0, 4000, .inl (fun _ => 0))), (h2, .inl (k1, 50, .inl (fun _ => 0)))]) hP hD [0, 1, 2] [] rfl rfl (by decide) (by decide) hk1 hFc hP1 hD1
            have hK := (hK.sub (tys' := []) [] rfl).app hK1
            generalize H1 = H at hP hS ⊢
            have hP : va_P (dC, dI) vC [(h0, .inr (7, [.ref h1, .int 0, .ref h2, .int 0, .int (-1), .null, .null, .null, .null, .null, .null, .null, .null, .null, .null])), (h1, .inl (k0, 4000, .inl (fun _ => 0))), (h2, .inl (k1, 50, .inl (fun _ => 0)))] H := hP
            have hD : va_D A [(h0, .inr (7, [.ref h1, .int 0, .ref h2, .int 0, .int (-1), .null, .null, .null, .null, .null, .null, .null, .null, .null, .null])), (h1, .inl (k0, 4000, .inl (fun _ => 0))), (h2, .inl (k1, 50, .inl (fun _ => 0)))] := hD
            have hK : va_K (dC, dI) vC [(k0, .byte), (k1, .int)] s := hK
            have hpo : r6 = 0 := hpo
            subst hpo
            refine W.widen (k := 0) (n := 0) (Nat.le_of_ble_eq_true rfl) (Nat.le_of_ble_eq_true rfl) ?_
            exact W.iret (v := 0) hx hb hr (fun t ht hW => ⟨⟨0, (), rfl, (by unfold fCount; rw [if_neg c1, if_pos c2]), trivial⟩, hS.F ht⟩) hS.2.2 dX11_count_40
      · refine lv_aload_n hx hb dX11_count_18 rfl (lv_at hl 0 rfl) ?_
        refine va_get (D := (dC, dI)) (ci := 7) (v := .int 0) (C := RX11) (T := TX11) (N := 15) hx hb hw inX11 hown hK hP 0 rfl rfl 1 (by decide) (hw _ mP_138) (fun _ h9 => h9) rfl dX11_count_19 ?_
        refine W.widen (k := 0) (n := 0) (Nat.le_of_ble_eq_true rfl) (Nat.le_of_ble_eq_true rfl) ?_
        exact W.iret (v := 0) hx hb hr (fun t ht hW => ⟨⟨0, (), rfl, (by unfold fCount; rw [if_neg c1, if_pos c2]), trivial⟩, hS.F ht⟩) hS.2.2 dX11_count_22
    · refine lv_iconst (v := (-1)) hx hb dX11_count_10 (by decide) ?_
      refine W.widen (k := 0) (n := 0) (Nat.le_of_ble_eq_true rfl) (Nat.le_of_ble_eq_true rfl) ?_
      exact W.iret (v := (-1)) hx hb hr (fun t ht hW => ⟨⟨(-1), (), rfl, (by unfold fCount; rw [if_neg c1, if_neg c2]), trivial⟩, hS.F ht⟩) hS.2.2 dX11_count_11
set_option maxHeartbeats 4000000 in
set_option maxRecDepth 100000 in
theorem tX12_count_n1 (l : Launch) (dC : Nat → ClassId) (dI : Nat → Nat → Nat) (h0 h1 h2 h3 h4 h5 h6 h7 h8 h9 h10 h11 h12 h13 j0 : Nat) (sz : Nat) (k0 k1 k2 k3 k4 k5 k6 k7 k8 k9 k10 k11 k12 : ClassId) (x0 : Int32) (fs : List Value) (hF : MF fs [.ref j0, .ref h1, .int 0, .int 0, .ref h2, .ref h3, .ref h4, .int 0, .int 0, .int 0, .int (-1), .int (-1), .ref h5, .ref h6, .ref h7, .ref h8, .ref h9, .ref h10, .ref h11, .int 0, .int 0, .int 0, .int 0, .ref h13, .ref h12, .int 0]) : Met l yX12_count (.code yX12_count cX12_count 2 (some .int) :: wP) ({ frames := 0, cells := 0, slots := 0, locals := 0 }) (Pz dC dI [.ref h0, .int x0] sz [(h0, .inr (8, fs)), (h1, .inl (k0, 4000, .inl (fun _ => 0))), (h2, .inl (k1, 1203, .inl (fun _ => 0))), (h3, .inl (k2, 1203, .inl (fun _ => 0))), (h4, .inl (k3, 1203, .inl (fun _ => 0))), (h5, .inl (k4, 2, .inl (fun _ => 0))), (h6, .inl (k5, 2, .inl (fun _ => 0))), (h7, .inl (k6, 2, .inl (fun _ => 0))), (h8, .inl (k7, 2, .inl (fun _ => 0))), (h9, .inl (k8, 2, .inl (fun _ => 0))), (h10, .inl (k9, 2, .inl (fun _ => 0))), (h11, .inl (k10, 2, .inl (fun _ => 0))), (h12, .inl (k11, 50, .inl (fun _ => 0))), (h13, .inl (k12, 2, .inl (upd (fun _ => 0) (0 : Int32).toNatClampNeg (vp_nar .boolean 0))))] [(k0, .byte), (k1, .int), (k2, .int), (k3, .int), (k4, .int), (k5, .int), (k6, .int), (k7, .int), (k8, .int), (k9, .int), (k10, .int), (k11, .int), (k12, .boolean)]) (va_Qi (fun (r : Int32) (_ : Unit) => r = fCount x0) (fun (_ : Unit) (_ : State) => True) (va_A [(h0, .inr (8, fs)), (h1, .inl (k0, 4000, .inl (fun _ => 0))), (h2, .inl (k1, 1203, .inl (fun _ => 0))), (h3, .inl (k2, 1203, .inl (fun _ => 0))), (h4, .inl (k3, 1203, .inl (fun _ => 0))), (h5, .inl (k4, 2, .inl (fun _ => 0))), (h6, .inl (k5, 2, .inl (fun _ => 0))), (h7, .inl (k6, 2, .inl (fun _ => 0))), (h8, .inl (k7, 2, .inl (fun _ => 0))), (h9, .inl (k8, 2, .inl (fun _ => 0))), (h10, .inl (k9, 2, .inl (fun _ => 0))), (h11, .inl (k10, 2, .inl (fun _ => 0))), (h12, .inl (k11, 50, .inl (fun _ => 0))), (h13, .inl (k12, 2, .inl (upd (fun _ => 0) (0 : Int32).toNatClampNeg (vp_nar .boolean 0))))] sz)) 0 0 (va_A [(h0, .inr (8, fs)), (h1, .inl (k0, 4000, .inl (fun _ => 0))), (h2, .inl (k1, 1203, .inl (fun _ => 0))), (h3, .inl (k2, 1203, .inl (fun _ => 0))), (h4, .inl (k3, 1203, .inl (fun _ => 0))), (h5, .inl (k4, 2, .inl (fun _ => 0))), (h6, .inl (k5, 2, .inl (fun _ => 0))), (h7, .inl (k6, 2, .inl (fun _ => 0))), (h8, .inl (k7, 2, .inl (fun _ => 0))), (h9, .inl (k8, 2, .inl (fun _ => 0))), (h10, .inl (k9, 2, .inl (fun _ => 0))), (h11, .inl (k10, 2, .inl (fun _ => 0))), (h12, .inl (k11, 50, .inl (fun _ => 0))), (h13, .inl (k12, 2, .inl (upd (fun _ => 0) (0 : Int32).toNatClampNeg (vp_nar .boolean 0))))] sz) := by
  refine Met.ofW (cc := cX12_count) (maxL := 2) (ret := (some .int)) (by decide) rfl ?_
  intro p e s m args below meth c s₁ B hml hv
  obtain ⟨rfl, hsz, hP, hK, hD0⟩ := hv
  have hx := B.exec
  have hb := B.bytes
  have hr := B.returns
  have hts := atoms_spec (ws := .code yX12_count cX12_count 2 (some .int) :: wP) B.pre
  have hw : ∀ w ∈ wP, w.before _ s = true := fun w h => hts w (List.mem_cons_of_mem _ h)
  have hown : s.vm.findClass RX12 = some m.cls := findClass_of_methodNamed B.named
  have hlocks := B.notSynchronized
  subst hsz
  have hD := hD0.self (sz := s.heap.size)
  generalize hAe : va_A [(h0, .inr (8, fs)), (h1, .inl (k0, 4000, .inl (fun _ => 0))), (h2, .inl (k1, 1203, .inl (fun _ => 0))), (h3, .inl (k2, 1203, .inl (fun _ => 0))), (h4, .inl (k3, 1203, .inl (fun _ => 0))), (h5, .inl (k4, 2, .inl (fun _ => 0))), (h6, .inl (k5, 2, .inl (fun _ => 0))), (h7, .inl (k6, 2, .inl (fun _ => 0))), (h8, .inl (k7, 2, .inl (fun _ => 0))), (h9, .inl (k8, 2, .inl (fun _ => 0))), (h10, .inl (k9, 2, .inl (fun _ => 0))), (h11, .inl (k10, 2, .inl (fun _ => 0))), (h12, .inl (k11, 50, .inl (fun _ => 0))), (h13, .inl (k12, 2, .inl (upd (fun _ => 0) (0 : Int32).toNatClampNeg (vp_nar .boolean 0))))] s.heap.size = A at hD ⊢
  have hA : ∀ q : Nat, s.heap.size ≤ q → A q := fun q h => by rw [← hAe]; exact Or.inr h
  have hS : va_S A s.heap s.heap [] := va_S.rf
  have hP : va_P (dC, dI) vC [(h0, .inr (8, fs)), (h1, .inl (k0, 4000, .inl (fun _ => 0))), (h2, .inl (k1, 1203, .inl (fun _ => 0))), (h3, .inl (k2, 1203, .inl (fun _ => 0))), (h4, .inl (k3, 1203, .inl (fun _ => 0))), (h5, .inl (k4, 2, .inl (fun _ => 0))), (h6, .inl (k5, 2, .inl (fun _ => 0))), (h7, .inl (k6, 2, .inl (fun _ => 0))), (h8, .inl (k7, 2, .inl (fun _ => 0))), (h9, .inl (k8, 2, .inl (fun _ => 0))), (h10, .inl (k9, 2, .inl (fun _ => 0))), (h11, .inl (k10, 2, .inl (fun _ => 0))), (h12, .inl (k11, 50, .inl (fun _ => 0))), (h13, .inl (k12, 2, .inl (upd (fun _ => 0) (0 : Int32).toNatClampNeg (vp_nar .boolean 0))))] s.heap := hP
  have hl := lv_entry ([.ref h0, .int x0]) (n := 2) (Nat.le_of_ble_eq_true rfl)
  rw [lg_entry_eq]
  generalize (lg_sl ([.ref h0, .int x0]) ++ List.replicate (2 - (lg_sl ([.ref h0, .int x0])).length) Slot.unset).toArray = ls at hl ⊢
  have hl : lv_has ls 2 [(0, .ref h0), (1, .int x0)] := hl
  refine lv_iload_n hx hb dX12_count_0 rfl (lv_at hl 1 rfl) ?_
  refine lv_if_lt (tgt := 10) hx hb dX12_count_1 (by decide) (fun c1 => ?_) (fun c1 => ?_)
  · refine lv_iconst (v := (-1)) hx hb dX12_count_10 (by decide) ?_
    refine W.widen (k := 0) (n := 0) (Nat.le_of_ble_eq_true rfl) (Nat.le_of_ble_eq_true rfl) ?_
    exact W.iret (v := (-1)) hx hb hr (fun t ht hW => ⟨⟨(-1), (), rfl, (by unfold fCount; rw [if_pos c1]), trivial⟩, hS.F ht⟩) hS.2.2 dX12_count_11
  · refine lv_iload_n hx hb dX12_count_4 rfl (lv_at hl 1 rfl) ?_
    refine lv_bipush (v := 12) hx hb dX12_count_5 (by decide) ?_
    refine lv_icmp_le (tgt := 12) hx hb dX12_count_7 (by decide) (fun c2 => ?_) (fun c2 => ?_)
    · refine lv_iload_n hx hb dX12_count_12 rfl (lv_at hl 1 rfl) ?_
      refine lv_bipush (v := 12) hx hb dX12_count_13 (by decide) ?_
      refine lv_icmp_ne (tgt := 23) hx hb dX12_count_15 (by decide) (fun c3 => ?_) (fun c3 => ?_)
      · refine lv_aload_n hx hb dX12_count_23 rfl (lv_at hl 0 rfl) ?_
        refine va_get (D := (dC, dI)) (ci := 8) (v := .int 0) (C := RX12) (T := TX12) (N := 105) hx hb hw inX12 hown hK hP 0 rfl rfl 46 (by decide) (hw _ mP_402) (fun _ h9 => h9) (hF.get 20 rfl rfl) dX12_count_24 ?_
        refine lv_if_ne (tgt := 32) hx hb dX12_count_27 (by decide) (fun c => absurd (by decide +kernel) c) (fun _ => ?_)
        refine lv_iconst (v := 0) hx hb dX12_count_30 (by decide) ?_
        refine W.widen (k := 0) (n := 0) (Nat.le_of_ble_eq_true rfl) (Nat.le_of_ble_eq_true rfl) ?_
        exact W.iret (v := 0) hx hb hr (fun t ht hW => ⟨⟨0, (), rfl, (by unfold fCount; rw [if_neg c1, if_pos c2]), trivial⟩, hS.F ht⟩) hS.2.2 dX12_count_31
      · refine lv_aload_n hx hb dX12_count_18 rfl (lv_at hl 0 rfl) ?_
        refine va_get (D := (dC, dI)) (ci := 8) (v := .int 0) (C := RX12) (T := TX12) (N := 105) hx hb hw inX12 hown hK hP 0 rfl rfl 3 (by decide) (hw _ mP_147) (fun _ h9 => h9) (hF.get 2 rfl rfl) dX12_count_19 ?_
        refine W.widen (k := 0) (n := 0) (Nat.le_of_ble_eq_true rfl) (Nat.le_of_ble_eq_true rfl) ?_
        exact W.iret (v := 0) hx hb hr (fun t ht hW => ⟨⟨0, (), rfl, (by unfold fCount; rw [if_neg c1, if_pos c2]), trivial⟩, hS.F ht⟩) hS.2.2 dX12_count_22
    · refine lv_iconst (v := (-1)) hx hb dX12_count_10 (by decide) ?_
      refine W.widen (k := 0) (n := 0) (Nat.le_of_ble_eq_true rfl) (Nat.le_of_ble_eq_true rfl) ?_
      exact W.iret (v := (-1)) hx hb hr (fun t ht hW => ⟨⟨(-1), (), rfl, (by unfold fCount; rw [if_neg c1, if_neg c2]), trivial⟩, hS.F ht⟩) hS.2.2 dX12_count_11
