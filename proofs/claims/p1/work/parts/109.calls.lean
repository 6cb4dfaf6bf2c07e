set_option maxHeartbeats 4000000 in
set_option maxRecDepth 100000 in
theorem tX12_init_n1 (l : Launch) (dC : Nat → ClassId) (dI : Nat → Nat → Nat) (h0 : Nat) (sz : Nat) (fs : List Value) (hF : MF fs [.null, .null, .int 0, .int 0, .null, .null, .null, .int 0, .int 0, .int 0, .int 0, .int 0, .null, .null, .null, .null, .null, .null, .null, .int 0, .int 0, .int 0, .int 0, .null, .null, .int 0]) : Met l yX12_init (.code yX12_init cX12_init 1 none :: wP) ({ frames := 1, cells := 86, slots := 638978, locals := 23 }) (Pz dC dI [.ref h0] sz [(h0, .inr (8, fs))] []) (va_Qv (fun (_ : Unit) => True) (fun (_ : Unit) (t : State) => ∃ (q4 : Nat) (q10 : Nat) (q13 : Nat) (q16 : Nat) (q24 : Nat) (q27 : Nat) (q30 : Nat) (q33 : Nat) (q36 : Nat) (q39 : Nat) (q42 : Nat) (q225 : Nat) (q228 : Nat) (q1 : Nat) (b5 : ClassId) (b11 : ClassId) (b14 : ClassId) (b17 : ClassId) (b25 : ClassId) (b28 : ClassId) (b31 : ClassId) (b34 : ClassId) (b37 : ClassId) (b40 : ClassId) (b43 : ClassId) (b226 : ClassId) (b229 : ClassId) (fs260 : List Value), MF fs260 [.ref q1, .ref q4, .int 0, .int 0, .ref q10, .ref q13, .ref q16, .int 0, .int 0, .int 0, .int (-1), .int (-1), .ref q24, .ref q27, .ref q30, .ref q33, .ref q36, .ref q39, .ref q42, .int 0, .int 0, .int 0, .int 0, .ref q228, .ref q225, .int 0] ∧ va_P (dC, dI) vC [(h0, .inr (8, fs260)), (q4, .inl (b5, 4000, .inl (fun _ => 0))), (q10, .inl (b11, 1203, .inl (fun _ => 0))), (q13, .inl (b14, 1203, .inl (fun _ => 0))), (q16, .inl (b17, 1203, .inl (fun _ => 0))), (q24, .inl (b25, 2, .inl (fun _ => 0))), (q27, .inl (b28, 2, .inl (fun _ => 0))), (q30, .inl (b31, 2, .inl (fun _ => 0))), (q33, .inl (b34, 2, .inl (fun _ => 0))), (q36, .inl (b37, 2, .inl (fun _ => 0))), (q39, .inl (b40, 2, .inl (fun _ => 0))), (q42, .inl (b43, 2, .inl (fun _ => 0))), (q225, .inl (b226, 50, .inl (fun _ => 0))), (q228, .inl (b229, 2, .inl (upd (fun _ => 0) (0 : Int32).toNatClampNeg (vp_nar .boolean 0))))] t.heap ∧ va_K (dC, dI) vC [(b5, .byte), (b11, .int), (b14, .int), (b17, .int), (b25, .int), (b28, .int), (b31, .int), (b34, .int), (b37, .int), (b40, .int), (b43, .int), (b226, .int), (b229, .boolean)] t ∧ va_D (va_A [(h0, .inr (8, fs))] sz) [(h0, .inr (8, fs260)), (q4, .inl (b5, 4000, .inl (fun _ => 0))), (q10, .inl (b11, 1203, .inl (fun _ => 0))), (q13, .inl (b14, 1203, .inl (fun _ => 0))), (q16, .inl (b17, 1203, .inl (fun _ => 0))), (q24, .inl (b25, 2, .inl (fun _ => 0))), (q27, .inl (b28, 2, .inl (fun _ => 0))), (q30, .inl (b31, 2, .inl (fun _ => 0))), (q33, .inl (b34, 2, .inl (fun _ => 0))), (q36, .inl (b37, 2, .inl (fun _ => 0))), (q39, .inl (b40, 2, .inl (fun _ => 0))), (q42, .inl (b43, 2, .inl (fun _ => 0))), (q225, .inl (b226, 50, .inl (fun _ => 0))), (q228, .inl (b229, 2, .inl (upd (fun _ => 0) (0 : Int32).toNatClampNeg (vp_nar .boolean 0))))]) (va_A [(h0, .inr (8, fs))] sz)) 86 638978 (va_A [(h0, .inr (8, fs))] sz) := by
  refine Met.ofW (cc := cX12_init) (maxL := 1) (ret := none) (by decide) rfl ?_
  intro p e s m args below meth c s₁ B hml hv
  obtain ⟨rfl, hsz, hP, hK, hD0⟩ := hv
  have hx := B.exec
  have hb := B.bytes
  have hr := B.returns
  have hts := atoms_spec (ws := .code yX12_init cX12_init 1 none :: wP) B.pre
  have hw : ∀ w ∈ wP, w.before _ s = true := fun w h => hts w (List.mem_cons_of_mem _ h)
  have hown : s.vm.findClass RX12 = some m.cls := findClass_of_methodNamed B.named
  have hlocks := B.notSynchronized
  have hin : meth.name = "<init>" := (name_of_methodNamed B.named B.method).1
  subst hsz
  have hD := hD0.self (sz := s.heap.size)
  generalize hAe : va_A [(h0, .inr (8, fs))] s.heap.size = A at hD ⊢
  have hA : ∀ q : Nat, s.heap.size ≤ q → A q := fun q h => by rw [← hAe]; exact Or.inr h
  have hS : va_S A s.heap s.heap [] := va_S.rf
  have hP : va_P (dC, dI) vC [(h0, .inr (8, fs))] s.heap := hP
  have hl := lv_entry ([.ref h0]) (n := 1) (Nat.le_of_ble_eq_true rfl)
  rw [lg_entry_eq]
  generalize (lg_sl ([.ref h0]) ++ List.replicate (1 - (lg_sl ([.ref h0])).length) Slot.unset).toArray = ls at hl ⊢
  have hl : lv_has ls 1 [(0, .ref h0)] := hl
  refine sx_0 hx hb hml hown hin hw hA (Nat.le_of_ble_eq_true rfl) (Nat.le_of_ble_eq_true rfl) (Nat.le_of_ble_eq_true rfl) (Nat.le_of_ble_eq_true rfl) hF hK hP hD hS hl ?_
  intro q1 q4 q10 q13 q16 q24 q27 b2 b5 b11 b14 b17 b25 b28 fs29 H locs ls hF hK hP hD hS hl
  refine sx_1 hx hb hml hown hin hw hA (Nat.le_of_ble_eq_true rfl) (Nat.le_of_ble_eq_true rfl) (Nat.le_of_ble_eq_true rfl) (Nat.le_of_ble_eq_true rfl) hF hK hP hD hS hl ?_
  intro q1 q4 q10 q13 q16 q24 q27 q30 q33 q36 q39 q42 b2 b5 b11 b14 b17 b25 b28 b31 b34 b37 b40 b43 fs56 H locs ls hF hK hP hD hS hl
  refine sx_2 hx hb hml hown hin hw hA (Nat.le_of_ble_eq_true rfl) (Nat.le_of_ble_eq_true rfl) (Nat.le_of_ble_eq_true rfl) (Nat.le_of_ble_eq_true rfl) hF hK hP hD hS hl ?_
  intro q1 q4 q10 q13 q16 q24 q27 q30 q33 q36 q39 q42 b2 b5 b11 b14 b17 b25 b28 b31 b34 b37 b40 b43 fs80 H locs ls hF hK hP hD hS hl
  refine sx_3 hx hb hml hown hin hw hA (Nat.le_of_ble_eq_true rfl) (Nat.le_of_ble_eq_true rfl) (Nat.le_of_ble_eq_true rfl) (Nat.le_of_ble_eq_true rfl) hF hK hP hD hS hl ?_
  intro q1 q4 q10 q13 q16 q24 q27 q30 q33 q36 q39 q42 b2 b5 b11 b14 b17 b25 b28 b31 b34 b37 b40 b43 fs104 H locs ls hF hK hP hD hS hl
  refine sx_4 hx hb hml hown hin hw hA (Nat.le_of_ble_eq_true rfl) (Nat.le_of_ble_eq_true rfl) (Nat.le_of_ble_eq_true rfl) (Nat.le_of_ble_eq_true rfl) hF hK hP hD hS hl ?_
  intro q1 q4 q10 q13 q16 q24 q27 q30 q33 q36 q39 q42 b2 b5 b11 b14 b17 b25 b28 b31 b34 b37 b40 b43 fs128 H locs ls hF hK hP hD hS hl
  refine sx_5 hx hb hml hown hin hw hA (Nat.le_of_ble_eq_true rfl) (Nat.le_of_ble_eq_true rfl) (Nat.le_of_ble_eq_true rfl) (Nat.le_of_ble_eq_true rfl) hF hK hP hD hS hl ?_
  intro q1 q4 q10 q13 q16 q24 q27 q30 q33 q36 q39 q42 b2 b5 b11 b14 b17 b25 b28 b31 b34 b37 b40 b43 fs152 H locs ls hF hK hP hD hS hl
  refine sx_6 hx hb hml hown hin hw hA (Nat.le_of_ble_eq_true rfl) (Nat.le_of_ble_eq_true rfl) (Nat.le_of_ble_eq_true rfl) (Nat.le_of_ble_eq_true rfl) hF hK hP hD hS hl ?_
  intro q1 q4 q10 q13 q16 q24 q27 q30 q33 q36 q39 q42 b2 b5 b11 b14 b17 b25 b28 b31 b34 b37 b40 b43 fs176 H locs ls hF hK hP hD hS hl
  refine sx_7 hx hb hml hown hin hw hA (Nat.le_of_ble_eq_true rfl) (Nat.le_of_ble_eq_true rfl) (Nat.le_of_ble_eq_true rfl) (Nat.le_of_ble_eq_true rfl) hF hK hP hD hS hl ?_
  intro q1 q4 q10 q13 q16 q24 q27 q30 q33 q36 q39 q42 b2 b5 b11 b14 b17 b25 b28 b31 b34 b37 b40 b43 fs200 H locs ls hF hK hP hD hS hl
  refine sx_8 hx hb hml hown hin hw hA (Nat.le_of_ble_eq_true rfl) (Nat.le_of_ble_eq_true rfl) (Nat.le_of_ble_eq_true rfl) (Nat.le_of_ble_eq_true rfl) hF hK hP hD hS hl ?_
  intro q1 q4 q10 q13 q16 q24 q27 q30 q33 q36 q39 q42 b2 b5 b11 b14 b17 b25 b28 b31 b34 b37 b40 b43 fs224 H locs ls hF hK hP hD hS hl
  refine sx_9 hx hb hml hown hin hw hA (Nat.le_of_ble_eq_true rfl) (Nat.le_of_ble_eq_true rfl) (Nat.le_of_ble_eq_true rfl) (Nat.le_of_ble_eq_true rfl) hF hK hP hD hS hl ?_
  intro q1 q4 q10 q13 q16 q24 q27 q30 q33 q36 q39 q42 q225 q228 b2 b5 b11 b14 b17 b25 b28 b31 b34 b37 b40 b43 b226 b229 fs251 H locs ls hF hK hP hD hS hl
  refine sx_10 hx hb hml hown hin hw hA (Nat.le_of_ble_eq_true rfl) (Nat.le_of_ble_eq_true rfl) (Nat.le_of_ble_eq_true rfl) (Nat.le_of_ble_eq_true rfl) hF hK hP hD hS hl ?_
  intro q1 q4 q10 q13 q16 q24 q27 q30 q33 q36 q39 q42 q225 q228 b2 b5 b11 b14 b17 b25 b28 b31 b34 b37 b40 b43 b226 b229 f264 fs260 H locs ls hF hK hP hD hS hl
  refine sx_11 hx hb hml hown hin hw hA (Nat.le_of_ble_eq_true rfl) (Nat.le_of_ble_eq_true rfl) (Nat.le_of_ble_eq_true rfl) (Nat.le_of_ble_eq_true rfl) hF hK hP hD hS hl ?_
  intro q1 q4 q10 q13 q16 q24 q27 q30 q33 q36 q39 q42 q225 q228 b2 b5 b11 b14 b17 b25 b28 b31 b34 b37 b40 b43 b226 b229 f272 fs260 H locs ls hF hK hP hD hS hl
  refine sx_12 hx hb hml hown hin hw hA (Nat.le_of_ble_eq_true rfl) (Nat.le_of_ble_eq_true rfl) (Nat.le_of_ble_eq_true rfl) (Nat.le_of_ble_eq_true rfl) hF hK hP hD hS hl ?_
  intro q1 q4 q10 q13 q16 q24 q27 q30 q33 q36 q39 q42 q225 q228 b2 b5 b11 b14 b17 b25 b28 b31 b34 b37 b40 b43 b226 b229 f280 fs260 H locs ls hF hK hP hD hS hl
  refine sx_13 hx hb hml hown hin hw hA (Nat.le_of_ble_eq_true rfl) (Nat.le_of_ble_eq_true rfl) (Nat.le_of_ble_eq_true rfl) (Nat.le_of_ble_eq_true rfl) hF hK hP hD hS hl ?_
  intro q1 q4 q10 q13 q16 q24 q27 q30 q33 q36 q39 q42 q225 q228 b2 b5 b11 b14 b17 b25 b28 b31 b34 b37 b40 b43 b226 b229 f288 fs260 H locs ls hF hK hP hD hS hl
  refine sx_14 hx hb hml hown hin hw hA (Nat.le_of_ble_eq_true rfl) (Nat.le_of_ble_eq_true rfl) (Nat.le_of_ble_eq_true rfl) (Nat.le_of_ble_eq_true rfl) hF hK hP hD hS hl ?_
  intro q1 q4 q10 q13 q16 q24 q27 q30 q33 q36 q39 q42 q225 q228 b2 b5 b11 b14 b17 b25 b28 b31 b34 b37 b40 b43 b226 b229 f296 fs260 H locs ls hF hK hP hD hS hl
  refine sx_15 hx hb hml hown hin hw hA (Nat.le_of_ble_eq_true rfl) (Nat.le_of_ble_eq_true rfl) (Nat.le_of_ble_eq_true rfl) (Nat.le_of_ble_eq_true rfl) hF hK hP hD hS hl ?_
  intro q1 q4 q10 q13 q16 q24 q27 q30 q33 q36 q39 q42 q225 q228 b2 b5 b11 b14 b17 b25 b28 b31 b34 b37 b40 b43 b226 b229 f304 fs260 H locs ls hF hK hP hD hS hl
  refine W.widen (k := 86) (n := 638978) (Nat.le_of_ble_eq_true rfl) (Nat.le_of_ble_eq_true rfl) ?_
  refine lv_aload_n hx hb dX12_init_1110 rfl (lv_at hl 0 rfl) ?_
  refine va_get (D := (dC, dI)) (ci := 8) (v := .ref q1) (C := RX12) (T := TX12) (N := 105) hx hb hw inX12 hown hK hP 0 rfl rfl 1 (by decide) (hw _ mP_42) (fun _ h9 => h9) (hF.get 0 rfl rfl) dX12_init_1111 ?_
  refine lv_bipush (v := 22) hx hb dX12_init_1114 (by decide) ?_
  refine lv_bipush (v := 105) hx hb dX12_init_1116 (by decide) ?_
  refine lv_bipush (v := 102) hx hb dX12_init_1118 (by decide) ?_
  refine lv_iconst (v := 0) hx hb dX12_init_1120 (by decide) ?_
  refine lv_iconst (v := 0) hx hb dX12_init_1121 (by decide) ?_
  have hPc := hP.sub (ws' := []) [] rfl
  have hDc := hD.sub (ws' := []) [] (by decide) rfl
  have hKc := hK.sub (tys' := []) [] rfl
  have hFc := va_free (wc := []) hD hS hA [] rfl
  refine va_calli (va_runS (As := [.int 105, .int 102, .int 0, .int 0]) (rest := [.int 22, .ref q1]) ⟨hx, hb, hml, hown, hw⟩ (tX12_word_n23 l dC dI H.size) ⟨callB_of 4 hw (gd mP_132) rfl rfl rfl (hw _ mP_40) (hw _ mP_133) hdX12_word ⟨Nat.le_of_ble_eq_true rfl, Nat.le_of_ble_eq_true rfl⟩, (hw _ mP_134)⟩ ⟨fbz, prz hPc hKc hDc⟩ rfl rfl hl.1 rfl (lv_room (Nat.le_of_ble_eq_true rfl)) dX12_init_1122 ⟨Nat.le_of_ble_eq_true rfl, Nat.le_of_ble_eq_true rfl⟩) hS (fun q _ h => hFc q h) hFc (fun r305 u305 t H1 locs ht hvm hpo hB hz1 hk1 hS => ?_)
  obtain ⟨hP1, hK1, hD1⟩ := hB
  rw [ht] at hP1
  have hK1 := va_K.moved hvm.symm hK1
  obtain ⟨hP, hD⟩ := va_join (wr := [(h0, .inr (8, fs260)), (q1, .inl (b2, 24, .inl f304)), (q4, .inl (b5, 4000, .inl (fun _ => 0))), (q10, .inl (b11, 1203, .inl (fun _ => 0))), (q13, .inl (b14, 1203, .inl (fun _ => 0))), (q16, .inl (b17, 1203, .inl (fun _ => 0))), (q24, .inl (b25, 2, .inl (fun _ => 0))), (q27, .inl (b28, 2, .inl (fun _ => 0))), (q30, .inl (b31, 2, .inl (fun _ => 0))), (q33, .inl (b34, 2, .inl (fun _ => 0))), (q36, .inl (b37, 2, .inl (fun _ => 0))), (q39, .inl (b40, 2, .inl (fun _ => 0))), (q42, .inl (b43, 2, .inl (fun _ => 0))), (q225, .inl (b226, 50, .inl (fun _ => 0))), (q228, .inl (b229, 2, .inl (upd (fun _ => 0) (0 : Int32).toNatClampNeg (vp_nar .boolean 0))))]) (w1 := []) hP hD [] [0, 1, 2, 3, 4, 5, 6, 7, 8, 9, 10, 11, 12, 13, 14] rfl rfl (by decide) (by decide) hk1 hFc hP1 hD1
  have hK := (hK.sub (tys' := [(b2, .int), (b5, .byte), (b11, .int), (b14, .int), (b17, .int), (b25, .int), (b28, .int), (b31, .int), (b34, .int), (b37, .int), (b40, .int), (b43, .int), (b226, .int), (b229, .boolean)]) [0, 1, 2, 3, 4, 5, 6, 7, 8, 9, 10, 11, 12, 13] rfl).app hK1
  generalize H1 = H at hP hS ⊢
  have hP : va_P (dC, dI) vC [(h0, .inr (8, fs260)), (q1, .inl (b2, 24, .inl f304)), (q4, .inl (b5, 4000, .inl (fun _ => 0))), (q10, .inl (b11, 1203, .inl (fun _ => 0))), (q13, .inl (b14, 1203, .inl (fun _ => 0))), (q16, .inl (b17, 1203, .inl (fun _ => 0))), (q24, .inl (b25, 2, .inl (fun _ => 0))), (q27, .inl (b28, 2, .inl (fun _ => 0))), (q30, .inl (b31, 2, .inl (fun _ => 0))), (q33, .inl (b34, 2, .inl (fun _ => 0))), (q36, .inl (b37, 2, .inl (fun _ => 0))), (q39, .inl (b40, 2, .inl (fun _ => 0))), (q42, .inl (b43, 2, .inl (fun _ => 0))), (q225, .inl (b226, 50, .inl (fun _ => 0))), (q228, .inl (b229, 2, .inl (upd (fun _ => 0) (0 : Int32).toNatClampNeg (vp_nar .boolean 0))))] H := hP
  have hD : va_D A [(h0, .inr (8, fs260)), (q1, .inl (b2, 24, .inl f304)), (q4, .inl (b5, 4000, .inl (fun _ => 0))), (q10, .inl (b11, 1203, .inl (fun _ => 0))), (q13, .inl (b14, 1203, .inl (fun _ => 0))), (q16, .inl (b17, 1203, .inl (fun _ => 0))), (q24, .inl (b25, 2, .inl (fun _ => 0))), (q27, .inl (b28, 2, .inl (fun _ => 0))), (q30, .inl (b31, 2, .inl (fun _ => 0))), (q33, .inl (b34, 2, .inl (fun _ => 0))), (q36, .inl (b37, 2, .inl (fun _ => 0))), (q39, .inl (b40, 2, .inl (fun _ => 0))), (q42, .inl (b43, 2, .inl (fun _ => 0))), (q225, .inl (b226, 50, .inl (fun _ => 0))), (q228, .inl (b229, 2, .inl (upd (fun _ => 0) (0 : Int32).toNatClampNeg (vp_nar .boolean 0))))] := hD
  have hK : va_K (dC, dI) vC [(b2, .int), (b5, .byte), (b11, .int), (b14, .int), (b17, .int), (b25, .int), (b28, .int), (b31, .int), (b34, .int), (b37, .int), (b40, .int), (b43, .int), (b226, .int), (b229, .boolean)] s := hK
  have hpo : r305 = 221872128 := hpo
  subst hpo
  refine va_iast hx hb hK hP hD hS 1 0 rfl rfl (vin (by decide +kernel)) dX12_init_1125 (fun H locs hP hD hS => ?_)
  obtain ⟨f306, hP, hD⟩ : ∃ f306 : Nat → Int32, va_P (dC, dI) vC [(h0, .inr (8, fs260)), (q1, .inl (b2, 24, .inl f306)), (q4, .inl (b5, 4000, .inl (fun _ => 0))), (q10, .inl (b11, 1203, .inl (fun _ => 0))), (q13, .inl (b14, 1203, .inl (fun _ => 0))), (q16, .inl (b17, 1203, .inl (fun _ => 0))), (q24, .inl (b25, 2, .inl (fun _ => 0))), (q27, .inl (b28, 2, .inl (fun _ => 0))), (q30, .inl (b31, 2, .inl (fun _ => 0))), (q33, .inl (b34, 2, .inl (fun _ => 0))), (q36, .inl (b37, 2, .inl (fun _ => 0))), (q39, .inl (b40, 2, .inl (fun _ => 0))), (q42, .inl (b43, 2, .inl (fun _ => 0))), (q225, .inl (b226, 50, .inl (fun _ => 0))), (q228, .inl (b229, 2, .inl (upd (fun _ => 0) (0 : Int32).toNatClampNeg (vp_nar .boolean 0))))] H ∧ va_D A [(h0, .inr (8, fs260)), (q1, .inl (b2, 24, .inl f306)), (q4, .inl (b5, 4000, .inl (fun _ => 0))), (q10, .inl (b11, 1203, .inl (fun _ => 0))), (q13, .inl (b14, 1203, .inl (fun _ => 0))), (q16, .inl (b17, 1203, .inl (fun _ => 0))), (q24, .inl (b25, 2, .inl (fun _ => 0))), (q27, .inl (b28, 2, .inl (fun _ => 0))), (q30, .inl (b31, 2, .inl (fun _ => 0))), (q33, .inl (b34, 2, .inl (fun _ => 0))), (q36, .inl (b37, 2, .inl (fun _ => 0))), (q39, .inl (b40, 2, .inl (fun _ => 0))), (q42, .inl (b43, 2, .inl (fun _ => 0))), (q225, .inl (b226, 50, .inl (fun _ => 0))), (q228, .inl (b229, 2, .inl (upd (fun _ => 0) (0 : Int32).toNatClampNeg (vp_nar .boolean 0))))] := ⟨_, hP, hD⟩
  refine lv_aload_n hx hb dX12_init_1126 rfl (lv_at hl 0 rfl) ?_
  refine va_get (D := (dC, dI)) (ci := 8) (v := .ref q1) (C := RX12) (T := TX12) (N := 105) hx hb hw inX12 hown hK hP 0 rfl rfl 1 (by decide) (hw _ mP_42) (fun _ h9 => h9) (hF.get 0 rfl rfl) dX12_init_1127 ?_
  refine lv_bipush (v := 23) hx hb dX12_init_1130 (by decide) ?_
  refine lv_bipush (v := 114) hx hb dX12_init_1132 (by decide) ?_
  refine lv_bipush (v := 101) hx hb dX12_init_1134 (by decide) ?_
  refine lv_bipush (v := 116) hx hb dX12_init_1136 (by decide) ?_
  refine lv_iconst (v := 0) hx hb dX12_init_1138 (by decide) ?_
  have hPc := hP.sub (ws' := []) [] rfl
  have hDc := hD.sub (ws' := []) [] (by decide) rfl
  have hKc := hK.sub (tys' := []) [] rfl
  have hFc := va_free (wc := []) hD hS hA [] rfl
  refine va_calli (va_runS (As := [.int 114, .int 101, .int 116, .int 0]) (rest := [.int 23, .ref q1]) ⟨hx, hb, hml, hown, hw⟩ (tX12_word_n24 l dC dI H.size) ⟨callB_of 4 hw (gd mP_132) rfl rfl rfl (hw _ mP_40) (hw _ mP_133) hdX12_word ⟨Nat.le_of_ble_eq_true rfl, Nat.le_of_ble_eq_true rfl⟩, (hw _ mP_134)⟩ ⟨fbz, prz hPc hKc hDc⟩ rfl rfl hl.1 rfl (lv_room (Nat.le_of_ble_eq_true rfl)) dX12_init_1139 ⟨Nat.le_of_ble_eq_true rfl, Nat.le_of_ble_eq_true rfl⟩) hS (fun q _ h => hFc q h) hFc (fun r307 u307 t H1 locs ht hvm hpo hB hz1 hk1 hS => ?_)
  obtain ⟨hP1, hK1, hD1⟩ := hB
  rw [ht] at hP1
  have hK1 := va_K.moved hvm.symm hK1
  obtain ⟨hP, hD⟩ := va_join (wr := [(h0, .inr (8, fs260)), (q1, .inl (b2, 24, .inl f306)), (q4, .inl (b5, 4000, .inl (fun _ => 0))), (q10, .inl (b11, 1203, .inl (fun _ => 0))), (q13, .inl (b14, 1203, .inl (fun _ => 0))), (q16, .inl (b17, 1203, .inl (fun _ => 0))), (q24, .inl (b25, 2, .inl (fun _ => 0))), (q27, .inl (b28, 2, .inl (fun _ => 0))), (q30, .inl (b31, 2, .inl (fun _ => 0))), (q33, .inl (b34, 2, .inl (fun _ => 0))), (q36, .inl (b37, 2, .inl (fun _ => 0))), (q39, .inl (b40, 2, .inl (fun _ => 0))), (q42, .inl (b43, 2, .inl (fun _ => 0))), (q225, .inl (b226, 50, .inl (fun _ => 0))), (q228, .inl (b229, 2, .inl (upd (fun _ => 0) (0 : Int32).toNatClampNeg (vp_nar .boolean 0))))]) (w1 := []) hP hD [] [0, 1, 2, 3, 4, 5, 6, 7, 8, 9, 10, 11, 12, 13, 14] rfl rfl (by decide) (by decide) hk1 hFc hP1 hD1
  have hK := (hK.sub (tys' := [(b2, .int), (b5, .byte), (b11, .int), (b14, .int), (b17, .int), (b25, .int), (b28, .int), (b31, .int), (b34, .int), (b37, .int), (b40, .int), (b43, .int), (b226, .int), (b229, .boolean)]) [0, 1, 2, 3, 4, 5, 6, 7, 8, 9, 10, 11, 12, 13] rfl).app hK1
  generalize H1 = H at hP hS ⊢
  have hP : va_P (dC, dI) vC [(h0, .inr (8, fs260)), (q1, .inl (b2, 24, .inl f306)), (q4, .inl (b5, 4000, .inl (fun _ => 0))), (q10, .inl (b11, 1203, .inl (fun _ => 0))), (q13, .inl (b14, 1203, .inl (fun _ => 0))), (q16, .inl (b17, 1203, .inl (fun _ => 0))), (q24, .inl (b25, 2, .inl (fun _ => 0))), (q27, .inl (b28, 2, .inl (fun _ => 0))), (q30, .inl (b31, 2, .inl (fun _ => 0))), (q33, .inl (b34, 2, .inl (fun _ => 0))), (q36, .inl (b37, 2, .inl (fun _ => 0))), (q39, .inl (b40, 2, .inl (fun _ => 0))), (q42, .inl (b43, 2, .inl (fun _ => 0))), (q225, .inl (b226, 50, .inl (fun _ => 0))), (q228, .inl (b229, 2, .inl (upd (fun _ => 0) (0 : Int32).toNatClampNeg (vp_nar .boolean 0))))] H := hP
  have hD : va_D A [(h0, .inr (8, fs260)), (q1, .inl (b2, 24, .inl f306)), (q4, .inl (b5, 4000, .inl (fun _ => 0))), (q10, .inl (b11, 1203, .inl (fun _ => 0))), (q13, .inl (b14, 1203, .inl (fun _ => 0))), (q16, .inl (b17, 1203, .inl (fun _ => 0))), (q24, .inl (b25, 2, .inl (fun _ => 0))), (q27, .inl (b28, 2, .inl (fun _ => 0))), (q30, .inl (b31, 2, .inl (fun _ => 0))), (q33, .inl (b34, 2, .inl (fun _ => 0))), (q36, .inl (b37, 2, .inl (fun _ => 0))), (q39, .inl (b40, 2, .inl (fun _ => 0))), (q42, .inl (b43, 2, .inl (fun _ => 0))), (q225, .inl (b226, 50, .inl (fun _ => 0))), (q228, .inl (b229, 2, .inl (upd (fun _ => 0) (0 : Int32).toNatClampNeg (vp_nar .boolean 0))))] := hD
  have hK : va_K (dC, dI) vC [(b2, .int), (b5, .byte), (b11, .int), (b14, .int), (b17, .int), (b25, .int), (b28, .int), (b31, .int), (b34, .int), (b37, .int), (b40, .int), (b43, .int), (b226, .int), (b229, .boolean)] s := hK
  have hpo : r307 = 240744960 := hpo
  subst hpo
  refine va_iast hx hb hK hP hD hS 1 0 rfl rfl (vin (by decide +kernel)) dX12_init_1142 (fun H locs hP hD hS => ?_)
  obtain ⟨f308, hP, hD⟩ : ∃ f308 : Nat → Int32, va_P (dC, dI) vC [(h0, .inr (8, fs260)), (q1, .inl (b2, 24, .inl f308)), (q4, .inl (b5, 4000, .inl (fun _ => 0))), (q10, .inl (b11, 1203, .inl (fun _ => 0))), (q13, .inl (b14, 1203, .inl (fun _ => 0))), (q16, .inl (b17, 1203, .inl (fun _ => 0))), (q24, .inl (b25, 2, .inl (fun _ => 0))), (q27, .inl (b28, 2, .inl (fun _ => 0))), (q30, .inl (b31, 2, .inl (fun _ => 0))), (q33, .inl (b34, 2, .inl (fun _ => 0))), (q36, .inl (b37, 2, .inl (fun _ => 0))), (q39, .inl (b40, 2, .inl (fun _ => 0))), (q42, .inl (b43, 2, .inl (fun _ => 0))), (q225, .inl (b226, 50, .inl (fun _ => 0))), (q228, .inl (b229, 2, .inl (upd (fun _ => 0) (0 : Int32).toNatClampNeg (vp_nar .boolean 0))))] H ∧ va_D A [(h0, .inr (8, fs260)), (q1, .inl (b2, 24, .inl f308)), (q4, .inl (b5, 4000, .inl (fun _ => 0))), (q10, .inl (b11, 1203, .inl (fun _ => 0))), (q13, .inl (b14, 1203, .inl (fun _ => 0))), (q16, .inl (b17, 1203, .inl (fun _ => 0))), (q24, .inl (b25, 2, .inl (fun _ => 0))), (q27, .inl (b28, 2, .inl (fun _ => 0))), (q30, .inl (b31, 2, .inl (fun _ => 0))), (q33, .inl (b34, 2, .inl (fun _ => 0))), (q36, .inl (b37, 2, .inl (fun _ => 0))), (q39, .inl (b40, 2, .inl (fun _ => 0))), (q42, .inl (b43, 2, .inl (fun _ => 0))), (q225, .inl (b226, 50, .inl (fun _ => 0))), (q228, .inl (b229, 2, .inl (upd (fun _ => 0) (0 : Int32).toNatClampNeg (vp_nar .boolean 0))))] := ⟨_, hP, hD⟩
  have hP := hP.sub (ws' := [(h0, .inr (8, fs260)), (q4, .inl (b5, 4000, .inl (fun _ => 0))), (q10, .inl (b11, 1203, .inl (fun _ => 0))), (q13, .inl (b14, 1203, .inl (fun _ => 0))), (q16, .inl (b17, 1203, .inl (fun _ => 0))), (q24, .inl (b25, 2, .inl (fun _ => 0))), (q27, .inl (b28, 2, .inl (fun _ => 0))), (q30, .inl (b31, 2, .inl (fun _ => 0))), (q33, .inl (b34, 2, .inl (fun _ => 0))), (q36, .inl (b37, 2, .inl (fun _ => 0))), (q39, .inl (b40, 2, .inl (fun _ => 0))), (q42, .inl (b43, 2, .inl (fun _ => 0))), (q225, .inl (b226, 50, .inl (fun _ => 0))), (q228, .inl (b229, 2, .inl (upd (fun _ => 0) (0 : Int32).toNatClampNeg (vp_nar .boolean 0))))]) [0, 2, 3, 4, 5, 6, 7, 8, 9, 10, 11, 12, 13, 14] rfl
  have hD := hD.sub (ws' := [(h0, .inr (8, fs260)), (q4, .inl (b5, 4000, .inl (fun _ => 0))), (q10, .inl (b11, 1203, .inl (fun _ => 0))), (q13, .inl (b14, 1203, .inl (fun _ => 0))), (q16, .inl (b17, 1203, .inl (fun _ => 0))), (q24, .inl (b25, 2, .inl (fun _ => 0))), (q27, .inl (b28, 2, .inl (fun _ => 0))), (q30, .inl (b31, 2, .inl (fun _ => 0))), (q33, .inl (b34, 2, .inl (fun _ => 0))), (q36, .inl (b37, 2, .inl (fun _ => 0))), (q39, .inl (b40, 2, .inl (fun _ => 0))), (q42, .inl (b43, 2, .inl (fun _ => 0))), (q225, .inl (b226, 50, .inl (fun _ => 0))), (q228, .inl (b229, 2, .inl (upd (fun _ => 0) (0 : Int32).toNatClampNeg (vp_nar .boolean 0))))]) [0, 2, 3, 4, 5, 6, 7, 8, 9, 10, 11, 12, 13, 14] (by decide) rfl
  have hK := hK.sub (tys' := [(b5, .byte), (b11, .int), (b14, .int), (b17, .int), (b25, .int), (b28, .int), (b31, .int), (b34, .int), (b37, .int), (b40, .int), (b43, .int), (b226, .int), (b229, .boolean)]) [1, 2, 3, 4, 5, 6, 7, 8, 9, 10, 11, 12, 13] rfl
  refine W.widen (k := 86) (n := 638978) (Nat.le_of_ble_eq_true rfl) (Nat.le_of_ble_eq_true rfl) ?_
  exact W.vret hx hb hr (fun t ht hW => ⟨⟨(), rfl, trivial, q4, q10, q13, q16, q24, q27, q30, q33, q36, q39, q42, q225, q228, q1, b5, b11, b14, b17, b25, b28, b31, b34, b37, b40, b43, b226, b229, fs260, hF, by rw [ht]; exact hP, va_K.moved hW.alike hK, hD⟩, hS.F ht⟩) hS.2.2 dX12_init_1143
set_option maxHeartbeats 4000000 in
set_option maxRecDepth 100000 in
theorem tX11_append_n1 (l : Launch) (dC : Nat → ClassId) (dI : Nat → Nat → Nat) (h0 h1 h2 : Nat) (sz : Nat) (k0 k1 : ClassId) (x0 : Int32) : Met l yX11_append (.code yX11_append cX11_append 3 none :: wP) ({ frames := 0, cells := 0, slots := 0, locals := 0 }) (Pz dC dI [.ref h0, .int x0] sz [(h0, .inr (7, [.ref h1, .int 0, .ref h2, .int 0, .int (-1), .null, .null, .null, .null, .null, .null, .null, .null, .null, .null])), (h1, .inl (k0, 4000, .inl (fun _ => 0))), (h2, .inl (k1, 50, .inl (fun _ => 0)))] [(k0, .byte), (k1, .int)]) (va_Qv (fun (_ : Unit) => True) (fun (_ : Unit) (t : State) => ∃ (f12 : Nat → Int32), va_P (dC, dI) vC [(h0, .inr (7, [.ref h1, .int 4, .ref h2, .int 0, .int (-1), .null, .null, .null, .null, .null, .null, .null, .null, .null, .null])), (h1, .inl (k0, 4000, .inl f12)), (h2, .inl (k1, 50, .inl (fun _ => 0)))] t.heap ∧ va_K (dC, dI) vC [(k0, .byte), (k1, .int)] t ∧ va_D (va_A [(h0, .inr (7, [.ref h1, .int 0, .ref h2, .int 0, .int (-1), .null, .null, .null, .null, .null, .null, .null, .null, .null, .null])), (h1, .inl (k0, 4000, .inl (fun _ => 0))), (h2, .inl (k1, 50, .inl (fun _ => 0)))] sz) [(h0, .inr (7, [.ref h1, .int 4, .ref h2, .int 0, .int (-1), .null, .null, .null, .null, .null, .null, .null, .null, .null, .null])), (h1, .inl (k0, 4000, .inl f12)), (h2, .inl (k1, 50, .inl (fun _ => 0)))]) (va_A [(h0, .inr (7, [.ref h1, .int 0, .ref h2, .int 0, .int (-1), .null, .null, .null, .null, .null, .null, .null, .null, .null, .null])), (h1, .inl (k0, 4000, .inl (fun _ => 0))), (h2, .inl (k1, 50, .inl (fun _ => 0)))] sz)) 0 0 (va_A [(h0, .inr (7, [.ref h1, .int 0, .ref h2, .int 0, .int (-1), .null, .null, .null, .null, .null, .null, .null, .null, .null, .null])), (h1, .inl (k0, 4000, .inl (fun _ => 0))), (h2, .inl (k1, 50, .inl (fun _ => 0)))] sz) := by
  refine Met.ofW (cc := cX11_append) (maxL := 3) (ret := none) (by decide) rfl ?_
  intro p e s m args below meth c s₁ B hml hv
  obtain ⟨rfl, hsz, hP, hK, hD0⟩ := hv
  have hx := B.exec
  have hb := B.bytes
  have hr := B.returns
  have hts := atoms_spec (ws := .code yX11_append cX11_append 3 none :: wP) B.pre
  have hw : ∀ w ∈ wP, w.before _ s = true := fun w h => hts w (List.mem_cons_of_mem _ h)
  have hown : s.vm.findClass RX11 = some m.cls := findClass_of_methodNamed B.named
  have hlocks := B.notSynchronized
  subst hsz
  have hD := hD0.self (sz := s.heap.size)
  generalize hAe : va_A [(h0, .inr (7, [.ref h1, .int 0, .ref h2, .int 0, .int (-1), .null, .null, .null, .null, .null, .null, .null, .null, .null, .null])), (h1, .inl (k0, 4000, .inl (fun _ => 0))), (h2, .inl (k1, 50, .inl (fun _ => 0)))] s.heap.size = A at hD ⊢
  have hA : ∀ q : Nat, s.heap.size ≤ q → A q := fun q h => by rw [← hAe]; exact Or.inr h
  have hS : va_S A s.heap s.heap [] := va_S.rf
  have hP : va_P (dC, dI) vC [(h0, .inr (7, [.ref h1, .int 0, .ref h2, .int 0, .int (-1), .null, .null, .null, .null, .null, .null, .null, .null, .null, .null])), (h1, .inl (k0, 4000, .inl (fun _ => 0))), (h2, .inl (k1, 50, .inl (fun _ => 0)))] s.heap := hP
  have hl := lv_entry ([.ref h0, .int x0]) (n := 3) (Nat.le_of_ble_eq_true rfl)
  rw [lg_entry_eq]
  generalize (lg_sl ([.ref h0, .int x0]) ++ List.replicate (3 - (lg_sl ([.ref h0, .int x0])).length) Slot.unset).toArray = ls at hl ⊢
  have hl : lv_has ls 3 [(0, .ref h0), (1, .int x0)] := hl
  refine lv_bipush (v := 24) hx hb dX11_append_0 (by decide) ?_
  refine lv_istore_n (lv' := [(2, .int 24), (0, .ref h0), (1, .int x0)]) hx hb dX11_append_2 rfl hl (by decide) rfl (fun ls hl => ?_)
  refine lv_iload_n hx hb dX11_append_3 rfl (lv_at hl 0 rfl) ?_
  refine lv_if_lt (tgt := 48) hx hb dX11_append_4 (by decide) (fun c => absurd c (by decide +kernel)) (fun _ => ?_)
  refine lv_aload_n hx hb dX11_append_7 rfl (lv_at hl 1 rfl) ?_
  refine va_get (D := (dC, dI)) (ci := 7) (v := .int 0) (C := RX11) (T := TX11) (N := 15) hx hb hw inX11 hown hK hP 0 rfl rfl 1 (by decide) (hw _ mP_138) (fun _ h9 => h9) rfl dX11_append_8 ?_
  refine lv_aload_n hx hb dX11_append_11 rfl (lv_at hl 1 rfl) ?_
  refine va_get (D := (dC, dI)) (ci := 7) (v := .ref h1) (C := RX11) (T := TX11) (N := 15) hx hb hw inX11 hown hK hP 0 rfl rfl 0 (by decide) (hw _ mP_31) (fun _ h9 => h9) rfl dX11_append_12 ?_
  refine va_alen (v := 4000) hx hb hK hP 1 0 rfl rfl (show Int32.ofNat 4000 = 4000 by decide +kernel) dX11_append_15 ?_
  refine lv_icmp_ge (tgt := 42) hx hb dX11_append_16 (by decide) (fun c => absurd c (by decide +kernel)) (fun _ => ?_)
  refine lv_aload_n hx hb dX11_append_19 rfl (lv_at hl 1 rfl) ?_
  refine va_get (D := (dC, dI)) (ci := 7) (v := .ref h1) (C := RX11) (T := TX11) (N := 15) hx hb hw inX11 hown hK hP 0 rfl rfl 0 (by decide) (hw _ mP_31) (fun _ h9 => h9) rfl dX11_append_20 ?_
  refine lv_aload_n hx hb dX11_append_23 rfl (lv_at hl 1 rfl) ?_
  refine va_get (D := (dC, dI)) (ci := 7) (v := .int 0) (C := RX11) (T := TX11) (N := 15) hx hb hw inX11 hown hK hP 0 rfl rfl 1 (by decide) (hw _ mP_138) (fun _ h9 => h9) rfl dX11_append_24 ?_
  refine lv_iload_n hx hb dX11_append_27 rfl (lv_at hl 2 rfl) ?_
  refine lv_iload_n hx hb dX11_append_28 rfl (lv_at hl 0 rfl) ?_
  refine lv_ishr hx hb dX11_append_29 ?_
  refine lv_topi (fun z1 ez1 => ?_)
  refine lv_i2b hx hb dX11_append_30 rfl ?_
  refine lv_topi (fun z2 ez2 => ?_)
  refine va_bast hx hb hK hP hD hS 1 0 rfl rfl (vin (by decide +kernel)) dX11_append_31 (fun H locs hP hD hS => ?_)
  obtain ⟨f3, hP, hD⟩ : ∃ f3 : Nat → Int32, va_P (dC, dI) vC [(h0, .inr (7, [.ref h1, .int 0, .ref h2, .int 0, .int (-1), .null, .null, .null, .null, .null, .null, .null, .null, .null, .null])), (h1, .inl (k0, 4000, .inl f3)), (h2, .inl (k1, 50, .inl (fun _ => 0)))] H ∧ va_D A [(h0, .inr (7, [.ref h1, .int 0, .ref h2, .int 0, .int (-1), .null, .null, .null, .null, .null, .null, .null, .null, .null, .null])), (h1, .inl (k0, 4000, .inl f3)), (h2, .inl (k1, 50, .inl (fun _ => 0)))] := ⟨_, hP, hD⟩
  refine lv_aload_n hx hb dX11_append_32 rfl (lv_at hl 1 rfl) ?_
  refine lv_dup hx hb dX11_append_33 rfl ?_
  refine va_get (D := (dC, dI)) (ci := 7) (v := .int 0) (C := RX11) (T := TX11) (N := 15) hx hb hw inX11 hown hK hP 0 rfl rfl 1 (by decide) (hw _ mP_138) (fun _ h9 => h9) rfl dX11_append_34 ?_
  refine lv_iconst (v := 1) hx hb dX11_append_37 (by decide) ?_
  refine lv_iadd hx hb dX11_append_38 ?_
  refine lv_nmi (y := 1) (by decide +kernel) ?_
  refine va_put (D := (dC, dI)) (ci := 7) (v := .int 1) (ty := .int) (C := RX11) (T := TX11) (N := 15) hx hb hw inX11 tyX11 tyX11_ok nmX11 hown hK hP hD hS 0 rfl rfl 1 (by decide) (hw _ mP_138) (fun _ h9 => h9) rfl (tyX11_ok 1 (by decide)) rfl rfl (Nat.le_of_ble_eq_true rfl) dX11_append_39 (fun H locs hP hD hS => ?_)
  have hP : va_P (dC, dI) vC [(h0, .inr (7, [.ref h1, .int 1, .ref h2, .int 0, .int (-1), .null, .null, .null, .null, .null, .null, .null, .null, .null, .null])), (h1, .inl (k0, 4000, .inl f3)), (h2, .inl (k1, 50, .inl (fun _ => 0)))] H := hP
  have hD : va_D A [(h0, .inr (7, [.ref h1, .int 1, .ref h2, .int 0, .int (-1), .null, .null, .null, .null, .null, .null, .null, .null, .null, .null])), (h1, .inl (k0, 4000, .inl f3)), (h2, .inl (k1, 50, .inl (fun _ => 0)))] := hD
  refine lv_iinc (v := 16) (lv' := [(2, .int 16), (0, .ref h0), (1, .int x0)]) hx hb dX11_append_42 hl (k := 0) rfl (by decide +kernel) (by decide) rfl (fun ls hl => ?_)
  refine lv_goto (tgt := 3) hx hb dX11_append_45 (by decide) ?_
  refine lv_iload_n hx hb dX11_append_3 rfl (lv_at hl 0 rfl) ?_
  refine lv_if_lt (tgt := 48) hx hb dX11_append_4 (by decide) (fun c => absurd c (by decide +kernel)) (fun _ => ?_)
  refine lv_aload_n hx hb dX11_append_7 rfl (lv_at hl 1 rfl) ?_
  refine va_get (D := (dC, dI)) (ci := 7) (v := .int 1) (C := RX11) (T := TX11) (N := 15) hx hb hw inX11 hown hK hP 0 rfl rfl 1 (by decide) (hw _ mP_138) (fun _ h9 => h9) rfl dX11_append_8 ?_
  refine lv_aload_n hx hb dX11_append_11 rfl (lv_at hl 1 rfl) ?_
  refine va_get (D := (dC, dI)) (ci := 7) (v := .ref h1) (C := RX11) (T := TX11) (N := 15) hx hb hw inX11 hown hK hP 0 rfl rfl 0 (by decide) (hw _ mP_31) (fun _ h9 => h9) rfl dX11_append_12 ?_
  refine va_alen (v := 4000) hx hb hK hP 1 0 rfl rfl (show Int32.ofNat 4000 = 4000 by decide +kernel) dX11_append_15 ?_
  refine lv_icmp_ge (tgt := 42) hx hb dX11_append_16 (by decide) (fun c => absurd c (by decide +kernel)) (fun _ => ?_)
  refine lv_aload_n hx hb dX11_append_19 rfl (lv_at hl 1 rfl) ?_
  refine va_get (D := (dC, dI)) (ci := 7) (v := .ref h1) (C := RX11) (T := TX11) (N := 15) hx hb hw inX11 hown hK hP 0 rfl rfl 0 (by decide) (hw _ mP_31) (fun _ h9 => h9) rfl dX11_append_20 ?_
  refine lv_aload_n hx hb dX11_append_23 rfl (lv_at hl 1 rfl) ?_
  refine va_get (D := (dC, dI)) (ci := 7) (v := .int 1) (C := RX11) (T := TX11) (N := 15) hx hb hw inX11 hown hK hP 0 rfl rfl 1 (by decide) (hw _ mP_138) (fun _ h9 => h9) rfl dX11_append_24 ?_
  refine lv_iload_n hx hb dX11_append_27 rfl (lv_at hl 2 rfl) ?_
  refine lv_iload_n hx hb dX11_append_28 rfl (lv_at hl 0 rfl) ?_
  refine lv_ishr hx hb dX11_append_29 ?_
  refine lv_topi (fun z4 ez4 => ?_)
  refine lv_i2b hx hb dX11_append_30 rfl ?_
  refine lv_topi (fun z5 ez5 => ?_)
  refine va_bast hx hb hK hP hD hS 1 0 rfl rfl (vin (by decide +kernel)) dX11_append_31 (fun H locs hP hD hS => ?_)
  obtain ⟨f6, hP, hD⟩ : ∃ f6 : Nat → Int32, va_P (dC, dI) vC [(h0, .inr (7, [.ref h1, .int 1, .ref h2, .int 0, .int (-1), .null, .null, .null, .null, .null, .null, .null, .null, .null, .null])), (h1, .inl (k0, 4000, .inl f6)), (h2, .inl (k1, 50, .inl (fun _ => 0)))] H ∧ va_D A [(h0, .inr (7, [.ref h1, .int 1, .ref h2, .int 0, .int (-1), .null, .null, .null, .null, .null, .null, .null, .null, .null, .null])), (h1, .inl (k0, 4000, .inl f6)), (h2, .inl (k1, 50, .inl (fun _ => 0)))] := ⟨_, hP, hD⟩
  refine lv_aload_n hx hb dX11_append_32 rfl (lv_at hl 1 rfl) ?_
  refine lv_dup hx hb dX11_append_33 rfl ?_
  refine va_get (D := (dC, dI)) (ci := 7) (v := .int 1) (C := RX11) (T := TX11) (N := 15) hx hb hw inX11 hown hK hP 0 rfl rfl 1 (by decide) (hw _ mP_138) (fun _ h9 => h9) rfl dX11_append_34 ?_
  refine lv_iconst (v := 1) hx hb dX11_append_37 (by decide) ?_
  refine lv_iadd hx hb dX11_append_38 ?_
  refine lv_nmi (y := 2) (by decide +kernel) ?_
  refine va_put (D := (dC, dI)) (ci := 7) (v := .int 2) (ty := .int) (C := RX11) (T := TX11) (N := 15) hx hb hw inX11 tyX11 tyX11_ok nmX11 hown hK hP hD hS 0 rfl rfl 1 (by decide) (hw _ mP_138) (fun _ h9 => h9) rfl (tyX11_ok 1 (by decide)) rfl rfl (Nat.le_of_ble_eq_true rfl) dX11_append_39 (fun H locs hP hD hS => ?_)
  have hP : va_P (dC, dI) vC [(h0, .inr (7, [.ref h1, .int 2, .ref h2, .int 0, .int (-1), .null, .null, .null, .null, .null, .null, .null, .null, .null, .null])), (h1, .inl (k0, 4000, .inl f6)), (h2, .inl (k1, 50, .inl (fun _ => 0)))] H := hP
  have hD : va_D A [(h0, .inr (7, [.ref h1, .int 2, .ref h2, .int 0, .int (-1), .null, .null, .null, .null, .null, .null, .null, .null, .null, .null])), (h1, .inl (k0, 4000, .inl f6)), (h2, .inl (k1, 50, .inl (fun _ => 0)))] := hD
  refine lv_iinc (v := 8) (lv' := [(2, .int 8), (0, .ref h0), (1, .int x0)]) hx hb dX11_append_42 hl (k := 0) rfl (by decide +kernel) (by decide) rfl (fun ls hl => ?_)
  refine lv_goto (tgt := 3) hx hb dX11_append_45 (by decide) ?_
  refine lv_iload_n hx hb dX11_append_3 rfl (lv_at hl 0 rfl) ?_
  refine lv_if_lt (tgt := 48) hx hb dX11_append_4 (by decide) (fun c => absurd c (by decide +kernel)) (fun _ => ?_)
  refine lv_aload_n hx hb dX11_append_7 rfl (lv_at hl 1 rfl) ?_
  refine va_get (D := (dC, dI)) (ci := 7) (v := .int 2) (C := RX11) (T := TX11) (N := 15) hx hb hw inX11 hown hK hP 0 rfl rfl 1 (by decide) (hw _ mP_138) (fun _ h9 => h9) rfl dX11_append_8 ?_
  refine lv_aload_n hx hb dX11_append_11 rfl (lv_at hl 1 rfl) ?_
  refine va_get (D := (dC, dI)) (ci := 7) (v := .ref h1) (C := RX11) (T := TX11) (N := 15) hx hb hw inX11 hown hK hP 0 rfl rfl 0 (by decide) (hw _ mP_31) (fun _ h9 => h9) rfl dX11_append_12 ?_
  refine va_alen (v := 4000) hx hb hK hP 1 0 rfl rfl (show Int32.ofNat 4000 = 4000 by decide +kernel) dX11_append_15 ?_
  refine lv_icmp_ge (tgt := 42) hx hb dX11_append_16 (by decide) (fun c => absurd c (by decide +kernel)) (fun _ => ?_)
  refine lv_aload_n hx hb dX11_append_19 rfl (lv_at hl 1 rfl) ?_
  refine va_get (D := (dC, dI)) (ci := 7) (v := .ref h1) (C := RX11) (T := TX11) (N := 15) hx hb hw inX11 hown hK hP 0 rfl rfl 0 (by decide) (hw _ mP_31) (fun _ h9 => h9) rfl dX11_append_20 ?_
  refine lv_aload_n hx hb dX11_append_23 rfl (lv_at hl 1 rfl) ?_
  refine va_get (D := (dC, dI)) (ci := 7) (v := .int 2) (C := RX11) (T := TX11) (N := 15) hx hb hw inX11 hown hK hP 0 rfl rfl 1 (by decide) (hw _ mP_138) (fun _ h9 => h9) rfl dX11_append_24 ?_
  refine lv_iload_n hx hb dX11_append_27 rfl (lv_at hl 2 rfl) ?_
  refine lv_iload_n hx hb dX11_append_28 rfl (lv_at hl 0 rfl) ?_
  refine lv_ishr hx hb dX11_append_29 ?_
  refine lv_topi (fun z7 ez7 => ?_)
  refine lv_i2b hx hb dX11_append_30 rfl ?_
  refine lv_topi (fun z8 ez8 => ?_)
  refine va_bast hx hb hK hP hD hS 1 0 rfl rfl (vin (by decide +kernel)) dX11_append_31 (fun H locs hP hD hS => ?_)
  obtain ⟨f9, hP, hD⟩ : ∃ f9 : Nat → Int32, va_P (dC, dI) vC [(h0, .inr (7, [.ref h1, .int 2, .ref h2, .int 0, .int (-1), .null, .null, .null, .null, .null, .null, .null, .null, .null, .null])), (h1, .inl (k0, 4000, .inl f9)), (h2, .inl (k1, 50, .inl (fun _ => 0)))] H ∧ va_D A [(h0, .inr (7, [.ref h1, .int 2, .ref h2, .int 0, .int (-1), .null, .null, .null, .null, .null, .null, .null, .null, .null, .null])), (h1, .inl (k0, 4000, .inl f9)), (h2, .inl (k1, 50, .inl (fun _ => 0)))] := ⟨_, hP, hD⟩
  refine lv_aload_n hx hb dX11_append_32 rfl (lv_at hl 1 rfl) ?_
  refine lv_dup hx hb dX11_append_33 rfl ?_
  refine va_get (D := (dC, dI)) (ci := 7) (v := .int 2) (C := RX11) (T := TX11) (N := 15) hx hb hw inX11 hown hK hP 0 rfl rfl 1 (by decide) (hw _ mP_138) (fun _ h9 => h9) rfl dX11_append_34 ?_
  refine lv_iconst (v := 1) hx hb dX11_append_37 (by decide) ?_
  refine lv_iadd hx hb dX11_append_38 ?_
  refine lv_nmi (y := 3) (by decide +kernel) ?_
  refine va_put (D := (dC, dI)) (ci := 7) (v := .int 3) (ty := .int) (C := RX11) (T := TX11) (N := 15) hx hb hw inX11 tyX11 tyX11_ok nmX11 hown hK hP hD hS 0 rfl rfl 1 (by decide) (hw _ mP_138) (fun _ h9 => h9) rfl (tyX11_ok 1 (by decide)) rfl rfl (Nat.le_of_ble_eq_true rfl) dX11_append_39 (fun H locs hP hD hS => ?_)
  have hP : va_P (dC, dI) vC [(h0, .inr (7, [.ref h1, .int 3, .ref h2, .int 0, .int (-1), .null, .null, .null, .null, .null, .null, .null, .null, .null, .null])), (h1, .inl (k0, 4000, .inl f9)), (h2, .inl (k1, 50, .inl (fun _ => 0)))] H := hP
  have hD : va_D A [(h0, .inr (7, [.ref h1, .int 3, .ref h2, .int 0, .int (-1), .null, .null, .null, .null, .null, .null, .null, .null, .null, .null])), (h1, .inl (k0, 4000, .inl f9)), (h2, .inl (k1, 50, .inl (fun _ => 0)))] := hD
  refine lv_iinc (v := 0) (lv' := [(2, .int 0), (0, .ref h0), (1, .int x0)]) hx hb dX11_append_42 hl (k := 0) rfl (by decide +kernel) (by decide) rfl (fun ls hl => ?_)
  refine lv_goto (tgt := 3) hx hb dX11_append_45 (by decide) ?_
  refine lv_iload_n hx hb dX11_append_3 rfl (lv_at hl 0 rfl) ?_
  refine lv_if_lt (tgt := 48) hx hb dX11_append_4 (by decide) (fun c => absurd c (by decide +kernel)) (fun _ => ?_)
  refine lv_aload_n hx hb dX11_append_7 rfl (lv_at hl 1 rfl) ?_
  refine va_get (D := (dC, dI)) (ci := 7) (v := .int 3) (C := RX11) (T := TX11) (N := 15) hx hb hw inX11 hown hK hP 0 rfl rfl 1 (by decide) (hw _ mP_138) (fun _ h9 => h9) rfl dX11_append_8 ?_
  refine lv_aload_n hx hb dX11_append_11 rfl (lv_at hl 1 rfl) ?_
  refine va_get (D := (dC, dI)) (ci := 7) (v := .ref h1) (C := RX11) (T := TX11) (N := 15) hx hb hw inX11 hown hK hP 0 rfl rfl 0 (by decide) (hw _ mP_31) (fun _ h9 => h9) rfl dX11_append_12 ?_
  refine va_alen (v := 4000) hx hb hK hP 1 0 rfl rfl (show Int32.ofNat 4000 = 4000 by decide +kernel) dX11_append_15 ?_
  refine lv_icmp_ge (tgt := 42) hx hb dX11_append_16 (by decide) (fun c => absurd c (by decide +kernel)) (fun _ => ?_)
  refine lv_aload_n hx hb dX11_append_19 rfl (lv_at hl 1 rfl) ?_
  refine va_get (D := (dC, dI)) (ci := 7) (v := .ref h1) (C := RX11) (T := TX11) (N := 15) hx hb hw inX11 hown hK hP 0 rfl rfl 0 (by decide) (hw _ mP_31) (fun _ h9 => h9) rfl dX11_append_20 ?_
  refine lv_aload_n hx hb dX11_append_23 rfl (lv_at hl 1 rfl) ?_
  refine va_get (D := (dC, dI)) (ci := 7) (v := .int 3) (C := RX11) (T := TX11) (N := 15) hx hb hw inX11 hown hK hP 0 rfl rfl 1 (by decide) (hw _ mP_138) (fun _ h9 => h9) rfl dX11_append_24 ?_
  refine lv_iload_n hx hb dX11_append_27 rfl (lv_at hl 2 rfl) ?_
  refine lv_iload_n hx hb dX11_append_28 rfl (lv_at hl 0 rfl) ?_
  refine lv_ishr hx hb dX11_append_29 ?_
  refine lv_topi (fun z10 ez10 => ?_)
  refine lv_i2b hx hb dX11_append_30 rfl ?_
  refine lv_topi (fun z11 ez11 => ?_)
  refine va_bast hx hb hK hP hD hS 1 0 rfl rfl (vin (by decide +kernel)) dX11_append_31 (fun H locs hP hD hS => ?_)
  obtain ⟨f12, hP, hD⟩ : ∃ f12 : Nat → Int32, va_P (dC, dI) vC [(h0, .inr (7, [.ref h1, .int 3, .ref h2, .int 0, .int (-1), .null, .null, .null, .null, .null, .null, .null, .null, .null, .null])), (h1, .inl (k0, 4000, .inl f12)), (h2, .inl (k1, 50, .inl (fun _ => 0)))] H ∧ va_D A [(h0, .inr (7, [.ref h1, .int 3, .ref h2, .int 0, .int (-1), .null, .null, .null, .null, .null, .null, .null, .null, .null, .null])), (h1, .inl (k0, 4000, .inl f12)), (h2, .inl (k1, 50, .inl (fun _ => 0)))] := ⟨_, hP, hD⟩
  refine lv_aload_n hx hb dX11_append_32 rfl (lv_at hl 1 rfl) ?_
  refine lv_dup hx hb dX11_append_33 rfl ?_
  refine va_get (D := (dC, dI)) (ci := 7) (v := .int 3) (C := RX11) (T := TX11) (N := 15) hx hb hw inX11 hown hK hP 0 rfl rfl 1 (by decide) (hw _ mP_138) (fun _ h9 => h9) rfl dX11_append_34 ?_
  refine lv_iconst (v := 1) hx hb dX11_append_37 (by decide) ?_
  refine lv_iadd hx hb dX11_append_38 ?_
  refine lv_nmi (y := 4) (by decide +kernel) ?_
  refine va_put (D := (dC, dI)) (ci := 7) (v := .int 4) (ty := .int) (C := RX11) (T := TX11) (N := 15) hx hb hw inX11 tyX11 tyX11_ok nmX11 hown hK hP hD hS 0 rfl rfl 1 (by decide) (hw _ mP_138) (fun _ h9 => h9) rfl (tyX11_ok 1 (by decide)) rfl rfl (Nat.le_of_ble_eq_true rfl) dX11_append_39 (fun H locs hP hD hS => ?_)
  have hP : va_P (dC, dI) vC [(h0, .inr (7, [.ref h1, .int 4, .ref h2, .int 0, .int (-1), .null, .null, .null, .null, .null, .null, .null, .null, .null, .null])), (h1, .inl (k0, 4000, .inl f12)), (h2, .inl (k1, 50, .inl (fun _ => 0)))] H := hP
  have hD : va_D A [(h0, .inr (7, [.ref h1, .int 4, .ref h2, .int 0, .int (-1), .null, .null, .null, .null, .null, .null, .null, .null, .null, .null])), (h1, .inl (k0, 4000, .inl f12)), (h2, .inl (k1, 50, .inl (fun _ => 0)))] := hD
  refine lv_iinc (v := (-8)) (lv' := [(2, .int (-8)), (0, .ref h0), (1, .int x0)]) hx hb dX11_append_42 hl (k := 0) rfl (by decide +kernel) (by decide) rfl (fun ls hl => ?_)
  refine lv_goto (tgt := 3) hx hb dX11_append_45 (by decide) ?_
  refine lv_iload_n hx hb dX11_append_3 rfl (lv_at hl 0 rfl) ?_
  refine lv_if_lt (tgt := 48) hx hb dX11_append_4 (by decide) (fun _ => ?_) (fun c => absurd (by decide +kernel) c)
  refine W.widen (k := 0) (n := 0) (Nat.le_of_ble_eq_true rfl) (Nat.le_of_ble_eq_true rfl) ?_
  exact W.vret hx hb hr (fun t ht hW => ⟨⟨(), rfl, trivial, f12, by rw [ht]; exact hP, va_K.moved hW.alike hK, hD⟩, hS.F ht⟩) hS.2.2 dX11_append_48
set_option maxHeartbeats 4000000 in
set_option maxRecDepth 100000 in
theorem tX11_append_n2 (l : Launch) (dC : Nat → ClassId) (dI : Nat → Nat → Nat) (h0 h1 h2 : Nat) (sz : Nat) (k0 k1 : ClassId) (x0 : Int32) (f_0 : Nat → Int32) : Met l yX11_append (.code yX11_append cX11_append 3 none :: wP) ({ frames := 0, cells := 0, slots := 0, locals := 0 }) (Pz dC dI [.ref h0, .int x0] sz [(h0, .inr (7, [.ref h1, .int 4, .ref h2, .int 0, .int (-1), .null, .null, .null, .null, .null, .null, .null, .null, .null, .null])), (h1, .inl (k0, 4000, .inl f_0)), (h2, .inl (k1, 50, .inl (fun _ => 0)))] [(k0, .byte), (k1, .int)]) (va_Qv (fun (_ : Unit) => True) (fun (_ : Unit) (t : State) => ∃ (f12 : Nat → Int32), va_P (dC, dI) vC [(h0, .inr (7, [.ref h1, .int 8, .ref h2, .int 0, .int (-1), .null, .null, .null, .null, .null, .null, .null, .null, .null, .null])), (h1, .inl (k0, 4000, .inl f12)), (h2, .inl (k1, 50, .inl (fun _ => 0)))] t.heap ∧ va_K (dC, dI) vC [(k0, .byte), (k1, .int)] t ∧ va_D (va_A [(h0, .inr (7, [.ref h1, .int 4, .ref h2, .int 0, .int (-1), .null, .null, .null, .null, .null, .null, .null, .null, .null, .null])), (h1, .inl (k0, 4000, .inl f_0)), (h2, .inl (k1, 50, .inl (fun _ => 0)))] sz) [(h0, .inr (7, [.ref h1, .int 8, .ref h2, .int 0, .int (-1), .null, .null, .null, .null, .null, .null, .null, .null, .null, .null])), (h1, .inl (k0, 4000, .inl f12)), (h2, .inl (k1, 50, .inl (fun _ => 0)))]) (va_A [(h0, .inr (7, [.ref h1, .int 4, .ref h2, .int 0, .int (-1), .null, .null, .null, .null, .null, .null, .null, .null, .null, .null])), (h1, .inl (k0, 4000, .inl f_0)), (h2, .inl (k1, 50, .inl (fun _ => 0)))] sz)) 0 0 (va_A [(h0, .inr (7, [.ref h1, .int 4, .ref h2, .int 0, .int (-1), .null, .null, .null, .null, .null, .null, .null, .null, .null, .null])), (h1, .inl (k0, 4000, .inl f_0)), (h2, .inl (k1, 50, .inl (fun _ => 0)))] sz) := by
  refine Met.ofW (cc := cX11_append) (maxL := 3) (ret := none) (by decide) rfl ?_
  intro p e s m args below meth c s₁ B hml hv
  obtain ⟨rfl, hsz, hP, hK, hD0⟩ := hv
  have hx := B.exec
  have hb := B.bytes
  have hr := B.returns
  have hts := atoms_spec (ws := .code yX11_append cX11_append 3 none :: wP) B.pre
  have hw : ∀ w ∈ wP, w.before _ s = true := fun w h => hts w (List.mem_cons_of_mem _ h)
  have hown : s.vm.findClass RX11 = some m.cls := findClass_of_methodNamed B.named
  have hlocks := B.notSynchronized
  subst hsz
  have hD := hD0.self (sz := s.heap.size)
  generalize hAe : va_A [(h0, .inr (7, [.ref h1, .int 4, .ref h2, .int 0, .int (-1), .null, .null, .null, .null, .null, .null, .null, .null, .null, .null])), (h1, .inl (k0, 4000, .inl f_0)), (h2, .inl (k1, 50, .inl (fun _ => 0)))] s.heap.size = A at hD ⊢
  have hA : ∀ q : Nat, s.heap.size ≤ q → A q := fun q h => by rw [← hAe]; exact Or.inr h
  have hS : va_S A s.heap s.heap [] := va_S.rf
  have hP : va_P (dC, dI) vC [(h0, .inr (7, [.ref h1, .int 4, .ref h2, .int 0, .int (-1), .null, .null, .null, .null, .null, .null, .null, .null, .null, .null])), (h1, .inl (k0, 4000, .inl f_0)), (h2, .inl (k1, 50, .inl (fun _ => 0)))] s.heap := hP
  have hl := lv_entry ([.ref h0, .int x0]) (n := 3) (Nat.le_of_ble_eq_true rfl)
  rw [lg_entry_eq]
  generalize (lg_sl ([.ref h0, .int x0]) ++ List.replicate (3 - (lg_sl ([.ref h0, .int x0])).length) Slot.unset).toArray = ls at hl ⊢
  have hl : lv_has ls 3 [(0, .ref h0), (1, .int x0)] := hl
  refine lv_bipush (v := 24) hx hb dX11_append_0 (by decide) ?_
  refine lv_istore_n (lv' := [(2, .int 24), (0, .ref h0), (1, .int x0)]) hx hb dX11_append_2 rfl hl (by decide) rfl (fun ls hl => ?_)
  refine lv_iload_n hx hb dX11_append_3 rfl (lv_at hl 0 rfl) ?_
  refine lv_if_lt (tgt := 48) hx hb dX11_append_4 (by decide) (fun c => absurd c (by decide +kernel)) (fun _ => ?_)
  refine lv_aload_n hx hb dX11_append_7 rfl (lv_at hl 1 rfl) ?_
  refine va_get (D := (dC, dI)) (ci := 7) (v := .int 4) (C := RX11) (T := TX11) (N := 15) hx hb hw inX11 hown hK hP 0 rfl rfl 1 (by decide) (hw _ mP_138) (fun _ h9 => h9) rfl dX11_append_8 ?_
  refine lv_aload_n hx hb dX11_append_11 rfl (lv_at hl 1 rfl) ?_
  refine va_get (D := (dC, dI)) (ci := 7) (v := .ref h1) (C := RX11) (T := TX11) (N := 15) hx hb hw inX11 hown hK hP 0 rfl rfl 0 (by decide) (hw _ mP_31) (fun _ h9 => h9) rfl dX11_append_12 ?_
  refine va_alen (v := 4000) hx hb hK hP 1 0 rfl rfl (show Int32.ofNat 4000 = 4000 by decide +kernel) dX11_append_15 ?_
  refine lv_icmp_ge (tgt := 42) hx hb dX11_append_16 (by decide) (fun c => absurd c (by decide +kernel)) (fun _ => ?_)
  refine lv_aload_n hx hb dX11_append_19 rfl (lv_at hl 1 rfl) ?_
  refine va_get (D := (dC, dI)) (ci := 7) (v := .ref h1) (C := RX11) (T := TX11) (N := 15) hx hb hw inX11 hown hK hP 0 rfl rfl 0 (by decide) (hw _ mP_31) (fun _ h9 => h9) rfl dX11_append_20 ?_
  refine lv_aload_n hx hb dX11_append_23 rfl (lv_at hl 1 rfl) ?_
  refine va_get (D := (dC, dI)) (ci := 7) (v := .int 4) (C := RX11) (T := TX11) (N := 15) hx hb hw inX11 hown hK hP 0 rfl rfl 1 (by decide) (hw _ mP_138) (fun _ h9 => h9) rfl dX11_append_24 ?_
  refine lv_iload_n hx hb dX11_append_27 rfl (lv_at hl 2 rfl) ?_
  refine lv_iload_n hx hb dX11_append_28 rfl (lv_at hl 0 rfl) ?_
  refine lv_ishr hx hb dX11_append_29 ?_
  refine lv_topi (fun z1 ez1 => ?_)
  refine lv_i2b hx hb dX11_append_30 rfl ?_
  refine lv_topi (fun z2 ez2 => ?_)
  refine va_bast hx hb hK hP hD hS 1 0 rfl rfl (vin (by decide +kernel)) dX11_append_31 (fun H locs hP hD hS => ?_)
  obtain ⟨f3, hP, hD⟩ : ∃ f3 : Nat → Int32, va_P (dC, dI) vC [(h0, .inr (7, [.ref h1, .int 4, .ref h2, .int 0, .int (-1), .null, .null, .null, .null, .null, .null, .null, .null, .null, .null])), (h1, .inl (k0, 4000, .inl f3)), (h2, .inl (k1, 50, .inl (fun _ => 0)))] H ∧ va_D A [(h0, .inr (7, [.ref h1, .int 4, .ref h2, .int 0, .int (-1), .null, .null, .null, .null, .null, .null, .null, .null, .null, .null])), (h1, .inl (k0, 4000, .inl f3)), (h2, .inl (k1, 50, .inl (fun _ => 0)))] := ⟨_, hP, hD⟩
  refine lv_aload_n hx hb dX11_append_32 rfl (lv_at hl 1 rfl) ?_
  refine lv_dup hx hb dX11_append_33 rfl ?_
  refine va_get (D := (dC, dI)) (ci := 7) (v := .int 4) (C := RX11) (T := TX11) (N := 15) hx hb hw inX11 hown hK hP 0 rfl rfl 1 (by decide) (hw _ mP_138) (fun _ h9 => h9) rfl dX11_append_34 ?_
  refine lv_iconst (v := 1) hx hb dX11_append_37 (by decide) ?_
  refine lv_iadd hx hb dX11_append_38 ?_
  refine lv_nmi (y := 5) (by decide +kernel) ?_
  refine va_put (D := (dC, dI)) (ci := 7) (v := .int 5) (ty := .int) (C := RX11) (T := TX11) (N := 15) hx hb hw inX11 tyX11 tyX11_ok nmX11 hown hK hP hD hS 0 rfl rfl 1 (by decide) (hw _ mP_138) (fun _ h9 => h9) rfl (tyX11_ok 1 (by decide)) rfl rfl (Nat.le_of_ble_eq_true rfl) dX11_append_39 (fun H locs hP hD hS => ?_)
  have hP : va_P (dC, dI) vC [(h0, .inr (7, [.ref h1, .int 5, .ref h2, .int 0, .int (-1), .null, .null, .null, .null, .null, .null, .null, .null, .null, .null])), (h1, .inl (k0, 4000, .inl f3)), (h2, .inl (k1, 50, .inl (fun _ => 0)))] H := hP
  have hD : va_D A [(h0, .inr (7, [.ref h1, .int 5, .ref h2, .int 0, .int (-1), .null, .null, .null, .null, .null, .null, .null, .null, .null, .null])), (h1, .inl (k0, 4000, .inl f3)), (h2, .inl (k1, 50, .inl (fun _ => 0)))] := hD
  refine lv_iinc (v := 16) (lv' := [(2, .int 16), (0, .ref h0), (1, .int x0)]) hx hb dX11_append_42 hl (k := 0) rfl (by decide +kernel) (by decide) rfl (fun ls hl => ?_)
  refine lv_goto (tgt := 3) hx hb dX11_append_45 (by decide) ?_
  refine lv_iload_n hx hb dX11_append_3 rfl (lv_at hl 0 rfl) ?_
  refine lv_if_lt (tgt := 48) hx hb dX11_append_4 (by decide) (fun c => absurd c (by decide +kernel)) (fun _ => ?_)
  refine lv_aload_n hx hb dX11_append_7 rfl (lv_at hl 1 rfl) ?_
  refine va_get (D := (dC, dI)) (ci := 7) (v := .int 5) (C := RX11) (T := TX11) (N := 15) hx hb hw inX11 hown hK hP 0 rfl rfl 1 (by decide) (hw _ mP_138) (fun _ h9 => h9) rfl dX11_append_8 ?_
  refine lv_aload_n hx hb dX11_append_11 rfl (lv_at hl 1 rfl) ?_
  refine va_get (D := (dC, dI)) (ci := 7) (v := .ref h1) (C := RX11) (T := TX11) (N := 15) hx hb hw inX11 hown hK hP 0 rfl rfl 0 (by decide) (hw _ mP_31) (fun _ h9 => h9) rfl dX11_append_12 ?_
  refine va_alen (v := 4000) hx hb hK hP 1 0 rfl rfl (show Int32.ofNat 4000 = 4000 by decide +kernel) dX11_append_15 ?_
  refine lv_icmp_ge (tgt := 42) hx hb dX11_append_16 (by decide) (fun c => absurd c (by decide +kernel)) (fun _ => ?_)
  refine lv_aload_n hx hb dX11_append_19 rfl (lv_at hl 1 rfl) ?_
  refine va_get (D := (dC, dI)) (ci := 7) (v := .ref h1) (C := RX11) (T := TX11) (N := 15) hx hb hw inX11 hown hK hP 0 rfl rfl 0 (by decide) (hw _ mP_31) (fun _ h9 => h9) rfl dX11_append_20 ?_
  refine lv_aload_n hx hb dX11_append_23 rfl (lv_at hl 1 rfl) ?_
  refine va_get (D := (dC, dI)) (ci := 7) (v := .int 5) (C := RX11) (T := TX11) (N := 15) hx hb hw inX11 hown hK hP 0 rfl rfl 1 (by decide) (hw _ mP_138) (fun _ h9 => h9) rfl dX11_append_24 ?_
  refine lv_iload_n hx hb dX11_append_27 rfl (lv_at hl 2 rfl) ?_
  refine lv_iload_n hx hb dX11_append_28 rfl (lv_at hl 0 rfl) ?_
  refine lv_ishr hx hb dX11_append_29 ?_
  refine lv_topi (fun z4 ez4 => ?_)
  refine lv_i2b hx hb dX11_append_30 rfl ?_
  refine lv_topi (fun z5 ez5 => ?_)
  refine va_bast hx hb hK hP hD hS 1 0 rfl rfl (vin (by decide +kernel)) dX11_append_31 (fun H locs hP hD hS => ?_)
  obtain ⟨f6, hP, hD⟩ : ∃ f6 : Nat → Int32, va_P (dC, dI) vC [(h0, .inr (7, [.ref h1, .int 5, .ref h2, .int 0, .int (-1), .null, .null, .null, .null, .null, .null, .null, .null, .null, .null])), (h1, .inl (k0, 4000, .inl f6)), (h2, .inl (k1, 50, .inl (fun _ => 0)))] H ∧ va_D A [(h0, .inr (7, [.ref h1, .int 5, .ref h2, .int 0, .int (-1), .null, .null, .null, .null, .null, .null, .null, .null, .null, .null])), (h1, .inl (k0, 4000, .inl f6)), (h2, .inl (k1, 50, .inl (fun _ => 0)))] := ⟨_, hP, hD⟩
  refine lv_aload_n hx hb dX11_append_32 rfl (lv_at hl 1 rfl) ?_
  refine lv_dup hx hb dX11_append_33 rfl ?_
  refine va_get (D := (dC, dI)) (ci := 7) (v := .int 5) (C := RX11) (T := TX11) (N := 15) hx hb hw inX11 hown hK hP 0 rfl rfl 1 (by decide) (hw _ mP_138) (fun _ h9 => h9) rfl dX11_append_34 ?_
  refine lv_iconst (v := 1) hx hb dX11_append_37 (by decide) ?_
  refine lv_iadd hx hb dX11_append_38 ?_
  refine lv_nmi (y := 6) (by decide +kernel) ?_
  refine va_put (D := (dC, dI)) (ci := 7) (v := .int 6) (ty := .int) (C := RX11) (T := TX11) (N := 15) hx hb hw inX11 tyX11 tyX11_ok nmX11 hown hK hP hD hS 0 rfl rfl 1 (by decide) (hw _ mP_138) (fun _ h9 => h9) rfl (tyX11_ok 1 (by decide)) rfl rfl (Nat.le_of_ble_eq_true rfl) dX11_append_39 (fun H locs hP hD hS => ?_)
  have hP : va_P (dC, dI) vC [(h0, .inr (7, [.ref h1, .int 6, .ref h2, .int 0, .int (-1), .null, .null, .null, .null, .null, .null, .null, .null, .null, .null])), (h1, .inl (k0, 4000, .inl f6)), (h2, .inl (k1, 50, .inl (fun _ => 0)))] H := hP
  have hD : va_D A [(h0, .inr (7, [.ref h1, .int 6, .ref h2, .int 0, .int (-1), .null, .null, .null, .null, .null, .null, .null, .null, .null, .null])), (h1, .inl (k0, 4000, .inl f6)), (h2, .inl (k1, 50, .inl (fun _ => 0)))] := hD
  refine lv_iinc (v := 8) (lv' := [(2, .int 8), (0, .ref h0), (1, .int x0)]) hx hb dX11_append_42 hl (k := 0) rfl (by decide +kernel) (by decide) rfl (fun ls hl => ?_)
  refine lv_goto (tgt := 3) hx hb dX11_append_45 (by decide) ?_
  refine lv_iload_n hx hb dX11_append_3 rfl (lv_at hl 0 rfl) ?_
  refine lv_if_lt (tgt := 48) hx hb dX11_append_4 (by decide) (fun c => absurd c (by decide +kernel)) (fun _ => ?_)
  refine lv_aload_n hx hb dX11_append_7 rfl (lv_at hl 1 rfl) ?_
  refine va_get (D := (dC, dI)) (ci := 7) (v := .int 6) (C := RX11) (T := TX11) (N := 15) hx hb hw inX11 hown hK hP 0 rfl rfl 1 (by decide) (hw _ mP_138) (fun _ h9 => h9) rfl dX11_append_8 ?_
  refine lv_aload_n hx hb dX11_append_11 rfl (lv_at hl 1 rfl) ?_
  refine va_get (D := (dC, dI)) (ci := 7) (v := .ref h1) (C := RX11) (T := TX11) (N := 15) hx hb hw inX11 hown hK hP 0 rfl rfl 0 (by decide) (hw _ mP_31) (fun _ h9 => h9) rfl dX11_append_12 ?_
  refine va_alen (v := 4000) hx hb hK hP 1 0 rfl rfl (show Int32.ofNat 4000 = 4000 by decide +kernel) dX11_append_15 ?_
  refine lv_icmp_ge (tgt := 42) hx hb dX11_append_16 (by decide) (fun c => absurd c (by decide +kernel)) (fun _ => ?_)
  refine lv_aload_n hx hb dX11_append_19 rfl (lv_at hl 1 rfl) ?_
  refine va_get (D := (dC, dI)) (ci := 7) (v := .ref h1) (C := RX11) (T := TX11) (N := 15) hx hb hw inX11 hown hK hP 0 rfl rfl 0 (by decide) (hw _ mP_31) (fun _ h9 => h9) rfl dX11_append_20 ?_
  refine lv_aload_n hx hb dX11_append_23 rfl (lv_at hl 1 rfl) ?_
  refine va_get (D := (dC, dI)) (ci := 7) (v := .int 6) (C := RX11) (T := TX11) (N := 15) hx hb hw inX11 hown hK hP 0 rfl rfl 1 (by decide) (hw _ mP_138) (fun _ h9 => h9) rfl dX11_append_24 ?_
  refine lv_iload_n hx hb dX11_append_27 rfl (lv_at hl 2 rfl) ?_
  refine lv_iload_n hx hb dX11_append_28 rfl (lv_at hl 0 rfl) ?_
  refine lv_ishr hx hb dX11_append_29 ?_
  refine lv_topi (fun z7 ez7 => ?_)
  refine lv_i2b hx hb dX11_append_30 rfl ?_
  refine lv_topi (fun z8 ez8 => ?_)
  refine va_bast hx hb hK hP hD hS 1 0 rfl rfl (vin (by decide +kernel)) dX11_append_31 (fun H locs hP hD hS => ?_)
  obtain ⟨f9, hP, hD⟩ : ∃ f9 : Nat → Int32, va_P (dC, dI) vC [(h0, .inr (7, [.ref h1, .int 6, .ref h2, .int 0, .int (-1), .null, .null, .null, .null, .null, .null, .null, .null, .null, .null])), (h1, .inl (k0, 4000, .inl f9)), (h2, .inl (k1, 50, .inl (fun _ => 0)))] H ∧ va_D A [(h0, .inr (7, [.ref h1, .int 6, .ref h2, .int 0, .int (-1), .null, .null, .null, .null, .null, .null, .null, .null, .null, .null])), (h1, .inl (k0, 4000, .inl f9)), (h2, .inl (k1, 50, .inl (fun _ => 0)))] := ⟨_, hP, hD⟩
  refine lv_aload_n hx hb dX11_append_32 rfl (lv_at hl 1 rfl) ?_
  refine lv_dup hx hb dX11_append_33 rfl ?_
  refine va_get (D := (dC, dI)) (ci := 7) (v := .int 6) (C := RX11) (T := TX11) (N := 15) hx hb hw inX11 hown hK hP 0 rfl rfl 1 (by decide) (hw _ mP_138) (fun _ h9 => h9) rfl dX11_append_34 ?_
  refine lv_iconst (v := 1) hx hb dX11_append_37 (by decide) ?_
  refine lv_iadd hx hb dX11_append_38 ?_
  refine lv_nmi (y := 7) (by decide +kernel) ?_
  refine va_put (D := (dC, dI)) (ci := 7) (v := .int 7) (ty := .int) (C := RX11) (T := TX11) (N := 15) hx hb hw inX11 tyX11 tyX11_ok nmX11 hown hK hP hD hS 0 rfl rfl 1 (by decide) (hw _ mP_138) (fun _ h9 => h9) rfl (tyX11_ok 1 (by decide)) rfl rfl (Nat.le_of_ble_eq_true rfl) dX11_append_39 (fun H locs hP hD hS => ?_)
  have hP : va_P (dC, dI) vC [(h0, .inr (7, [.ref h1, .int 7, .ref h2, .int 0, .int (-1), .null, .null, .null, .null, .null, .null, .null, .null, .null, .null])), (h1, .inl (k0, 4000, .inl f9)), (h2, .inl (k1, 50, .inl (fun _ => 0)))] H := hP
  have hD : va_D A [(h0, .inr (7, [.ref h1, .int 7, .ref h2, .int 0, .int (-1), .null, .null, .null, .null, .null, .null, .null, .null, .null, .null])), (h1, .inl (k0, 4000, .inl f9)), (h2, .inl (k1, 50, .inl (fun _ => 0)))] := hD
  refine lv_iinc (v := 0) (lv' := [(2, .int 0), (0, .ref h0), (1, .int x0)]) hx hb dX11_append_42 hl (k := 0) rfl (by decide +kernel) (by decide) rfl (fun ls hl => ?_)
  refine lv_goto (tgt := 3) hx hb dX11_append_45 (by decide) ?_
  refine lv_iload_n hx hb dX11_append_3 rfl (lv_at hl 0 rfl) ?_
  refine lv_if_lt (tgt := 48) hx hb dX11_append_4 (by decide) (fun c => absurd c (by decide +kernel)) (fun _ => ?_)
  refine lv_aload_n hx hb dX11_append_7 rfl (lv_at hl 1 rfl) ?_
  refine va_get (D := (dC, dI)) (ci := 7) (v := .int 7) (C := RX11) (T := TX11) (N := 15) hx hb hw inX11 hown hK hP 0 rfl rfl 1 (by decide) (hw _ mP_138) (fun _ h9 => h9) rfl dX11_append_8 ?_
  refine lv_aload_n hx hb dX11_append_11 rfl (lv_at hl 1 rfl) ?_
  refine va_get (D := (dC, dI)) (ci := 7) (v := .ref h1) (C := RX11) (T := TX11) (N := 15) hx hb hw inX11 hown hK hP 0 rfl rfl 0 (by decide) (hw _ mP_31) (fun _ h9 => h9) rfl dX11_append_12 ?_
  refine va_alen (v := 4000) hx hb hK hP 1 0 rfl rfl (show Int32.ofNat 4000 = 4000 by decide +kernel) dX11_append_15 ?_
  refine lv_icmp_ge (tgt := 42) hx hb dX11_append_16 (by decide) (fun c => absurd c (by decide +kernel)) (fun _ => ?_)
  refine lv_aload_n hx hb dX11_append_19 rfl (lv_at hl 1 rfl) ?_
  refine va_get (D := (dC, dI)) (ci := 7) (v := .ref h1) (C := RX11) (T := TX11) (N := 15) hx hb hw inX11 hown hK hP 0 rfl rfl 0 (by decide) (hw _ mP_31) (fun _ h9 => h9) rfl dX11_append_20 ?_
  refine lv_aload_n hx hb dX11_append_23 rfl (lv_at hl 1 rfl) ?_
  refine va_get (D := (dC, dI)) (ci := 7) (v := .int 7) (C := RX11) (T := TX11) (N := 15) hx hb hw inX11 hown hK hP 0 rfl rfl 1 (by decide) (hw _ mP_138) (fun _ h9 => h9) rfl dX11_append_24 ?_
  refine lv_iload_n hx hb dX11_append_27 rfl (lv_at hl 2 rfl) ?_
  refine lv_iload_n hx hb dX11_append_28 rfl (lv_at hl 0 rfl) ?_
  refine lv_ishr hx hb dX11_append_29 ?_
  refine lv_topi (fun z10 ez10 => ?_)
  refine lv_i2b hx hb dX11_append_30 rfl ?_
  refine lv_topi (fun z11 ez11 => ?_)
  refine va_bast hx hb hK hP hD hS 1 0 rfl rfl (vin (by decide +kernel)) dX11_append_31 (fun H locs hP hD hS => ?_)
  obtain ⟨f12, hP, hD⟩ : ∃ f12 : Nat → Int32, va_P (dC, dI) vC [(h0, .inr (7, [.ref h1, .int 7, .ref h2, .int 0, .int (-1), .null, .null, .null, .null, .null, .null, .null, .null, .null, .null])), (h1, .inl (k0, 4000, .inl f12)), (h2, .inl (k1, 50, .inl (fun _ => 0)))] H ∧ va_D A [(h0, .inr (7, [.ref h1, .int 7, .ref h2, .int 0, .int (-1), .null, .null, .null, .null, .null, .null, .null, .null, .null, .null])), (h1, .inl (k0, 4000, .inl f12)), (h2, .inl (k1, 50, .inl (fun _ => 0)))] := ⟨_, hP, hD⟩
  refine lv_aload_n hx hb dX11_append_32 rfl (lv_at hl 1 rfl) ?_
  refine lv_dup hx hb dX11_append_33 rfl ?_
  refine va_get (D := (dC, dI)) (ci := 7) (v := .int 7) (C := RX11) (T := TX11) (N := 15) hx hb hw inX11 hown hK hP 0 rfl rfl 1 (by decide) (hw _ mP_138) (fun _ h9 => h9) rfl dX11_append_34 ?_
  refine lv_iconst (v := 1) hx hb dX11_append_37 (by decide) ?_
  refine lv_iadd hx hb dX11_append_38 ?_
  refine lv_nmi (y := 8) (by decide +kernel) ?_
  refine va_put (D := (dC, dI)) (ci := 7) (v := .int 8) (ty := .int) (C := RX11) (T := TX11) (N := 15) hx hb hw inX11 tyX11 tyX11_ok nmX11 hown hK hP hD hS 0 rfl rfl 1 (by decide) (hw _ mP_138) (fun _ h9 => h9) rfl (tyX11_ok 1 (by decide)) rfl rfl (Nat.le_of_ble_eq_true rfl) dX11_append_39 (fun H locs hP hD hS => ?_)
  have hP : va_P (dC, dI) vC [(h0, .inr (7, [.ref h1, .int 8, .ref h2, .int 0, .int (-1), .null, .null, .null, .null, .null, .null, .null, .null, .null, .null])), (h1, .inl (k0, 4000, .inl f12)), (h2, .inl (k1, 50, .inl (fun _ => 0)))] H := hP
  have hD : va_D A [(h0, .inr (7, [.ref h1, .int 8, .ref h2, .int 0, .int (-1), .null, .null, .null, .null, .null, .null, .null, .null, .null, .null])), (h1, .inl (k0, 4000, .inl f12)), (h2, .inl (k1, 50, .inl (fun _ => 0)))] := hD
  refine lv_iinc (v := (-8)) (lv' := [(2, .int (-8)), (0, .ref h0), (1, .int x0)]) hx hb dX11_append_42 hl (k := 0) rfl (by decide +kernel) (by decide) rfl (fun ls hl => ?_)
  refine lv_goto (tgt := 3) hx hb dX11_append_45 (by decide) ?_
  refine lv_iload_n hx hb dX11_append_3 rfl (lv_at hl 0 rfl) ?_
  refine lv_if_lt (tgt := 48) hx hb dX11_append_4 (by decide) (fun _ => ?_) (fun c => absurd (by decide +kernel) c)
  refine W.widen (k := 0) (n := 0) (Nat.le_of_ble_eq_true rfl) (Nat.le_of_ble_eq_true rfl) ?_
  exact W.vret hx hb hr (fun t ht hW => ⟨⟨(), rfl, trivial, f12, by rw [ht]; exact hP, va_K.moved hW.alike hK, hD⟩, hS.F ht⟩) hS.2.2 dX11_append_48
set_option maxHeartbeats 4000000 in
set_option maxRecDepth 100000 in
theorem tX11_append_n3 (l : Launch) (dC : Nat → ClassId) (dI : Nat → Nat → Nat) (h0 h1 h2 : Nat) (sz : Nat) (k0 k1 : ClassId) (x0 : Int32) (f_0 : Nat → Int32) : Met l yX11_append (.code yX11_append cX11_append 3 none :: wP) ({ frames := 0, cells := 0, slots := 0, locals := 0 }) (Pz dC dI [.ref h0, .int x0] sz [(h0, .inr (7, [.ref h1, .int 8, .ref h2, .int 0, .int (-1), .null, .null, .null, .null, .null, .null, .null, .null, .null, .null])), (h1, .inl (k0, 4000, .inl f_0)), (h2, .inl (k1, 50, .inl (fun _ => 0)))] [(k0, .byte), (k1, .int)]) (va_Qv (fun (_ : Unit) => True) (fun (_ : Unit) (t : State) => ∃ (f12 : Nat → Int32), va_P (dC, dI) vC [(h0, .inr (7, [.ref h1, .int 12, .ref h2, .int 0, .int (-1), .null, .null, .null, .null, .null, .null, .null, .null, .null, .null])), (h1, .inl (k0, 4000, .inl f12)), (h2, .inl (k1, 50, .inl (fun _ => 0)))] t.heap ∧ va_K (dC, dI) vC [(k0, .byte), (k1, .int)] t ∧ va_D (va_A [(h0, .inr (7, [.ref h1, .int 8, .ref h2, .int 0, .int (-1), .null, .null, .null, .null, .null, .null, .null, .null, .null, .null])), (h1, .inl (k0, 4000, .inl f_0)), (h2, .inl (k1, 50, .inl (fun _ => 0)))] sz) [(h0, .inr (7, [.ref h1, .int 12, .ref h2, .int 0, .int (-1), .null, .null, .null, .null, .null, .null, .null, .null, .null, .null])), (h1, .inl (k0, 4000, .inl f12)), (h2, .inl (k1, 50, .inl (fun _ => 0)))]) (va_A [(h0, .inr (7, [.ref h1, .int 8, .ref h2, .int 0, .int (-1), .null, .null, .null, .null, .null, .null, .null, .null, .null, .null])), (h1, .inl (k0, 4000, .inl f_0)), (h2, .inl (k1, 50, .inl (fun _ => 0)))] sz)) 0 0 (va_A [(h0, .inr (7, [.ref h1, .int 8, .ref h2, .int 0, .int (-1), .null, .null, .null, .null, .null, .null, .null, .null, .null, .null])), (h1, .inl (k0, 4000, .inl f_0)), (h2, .inl (k1, 50, .inl (fun _ => 0)))] sz) := by
  refine Met.ofW (cc := cX11_append) (maxL := 3) (ret := none) (by decide) rfl ?_
  intro p e s m args below meth c s₁ B hml hv
  obtain ⟨rfl, hsz, hP, hK, hD0⟩ := hv
  have hx := B.exec
  have hb := B.bytes
  have hr := B.returns
  have hts := atoms_spec (ws := .code yX11_append cX11_append 3 none :: wP) B.pre
  have hw : ∀ w ∈ wP, w.before _ s = true := fun w h => hts w (List.mem_cons_of_mem _ h)
  have hown : s.vm.findClass RX11 = some m.cls := findClass_of_methodNamed B.named
  have hlocks := B.notSynchronized
  subst hsz
  have hD := hD0.self (sz := s.heap.size)
  generalize hAe : va_A [(h0, .inr (7, [.ref h1, .int 8, .ref h2, .int 0, .int (-1), .null, .null, .null, .null, .null, .null, .null, .null, .null, .null])), (h1, .inl (k0, 4000, .inl f_0)), (h2, .inl (k1, 50, .inl (fun _ => 0)))] s.heap.size = A at hD ⊢
  have hA : ∀ q : Nat, s.heap.size ≤ q → A q := fun q h => by rw [← hAe]; exact Or.inr h
  have hS : va_S A s.heap s.heap [] := va_S.rf
  have hP : va_P (dC, dI) vC [(h0, .inr (7, [.ref h1, .int 8, .ref h2, .int 0, .int (-1), .null, .null, .null, .null, .null, .null, .null, .null, .null, .null])), (h1, .inl (k0, 4000, .inl f_0)), (h2, .inl (k1, 50, .inl (fun _ => 0)))] s.heap := hP
  have hl := lv_entry ([.ref h0, .int x0]) (n := 3) (Nat.le_of_ble_eq_true rfl)
  rw [lg_entry_eq]
  generalize (lg_sl ([.ref h0, .int x0]) ++ List.replicate (3 - (lg_sl ([.ref h0, .int x0])).length) Slot.unset).toArray = ls at hl ⊢
  have hl : lv_has ls 3 [(0, .ref h0), (1, .int x0)] := hl
  refine lv_bipush (v := 24) hx hb dX11_append_0 (by decide) ?_
  refine lv_istore_n (lv' := [(2, .int 24), (0, .ref h0), (1, .int x0)]) hx hb dX11_append_2 rfl hl (by decide) rfl (fun ls hl => ?_)
  refine lv_iload_n hx hb dX11_append_3 rfl (lv_at hl 0 rfl) ?_
  refine lv_if_lt (tgt := 48) hx hb dX11_append_4 (by decide) (fun c => absurd c (by decide +kernel)) (fun _ => ?_)
  refine lv_aload_n hx hb dX11_append_7 rfl (lv_at hl 1 rfl) ?_
  refine va_get (D := (dC, dI)) (ci := 7) (v := .int 8) (C := RX11) (T := TX11) (N := 15) hx hb hw inX11 hown hK hP 0 rfl rfl 1 (by decide) (hw _ mP_138) (fun _ h9 => h9) rfl dX11_append_8 ?_
  refine lv_aload_n hx hb dX11_append_11 rfl (lv_at hl 1 rfl) ?_
  refine va_get (D := (dC, dI)) (ci := 7) (v := .ref h1) (C := RX11) (T := TX11) (N := 15) hx hb hw inX11 hown hK hP 0 rfl rfl 0 (by decide) (hw _ mP_31) (fun _ h9 => h9) rfl dX11_append_12 ?_
  refine va_alen (v := 4000) hx hb hK hP 1 0 rfl rfl (show Int32.ofNat 4000 = 4000 by decide +kernel) dX11_append_15 ?_
  refine lv_icmp_ge (tgt := 42) hx hb dX11_append_16 (by decide) (fun c => absurd c (by decide +kernel)) (fun _ => ?_)
  refine lv_aload_n hx hb dX11_append_19 rfl (lv_at hl 1 rfl) ?_
  refine va_get (D := (dC, dI)) (ci := 7) (v := .ref h1) (C := RX11) (T := TX11) (N := 15) hx hb hw inX11 hown hK hP 0 rfl rfl 0 (by decide) (hw _ mP_31) (fun _ h9 => h9) rfl dX11_append_20 ?_
  refine lv_aload_n hx hb dX11_append_23 rfl (lv_at hl 1 rfl) ?_
  refine va_get (D := (dC, dI)) (ci := 7) (v := .int 8) (C := RX11) (T := TX11) (N := 15) hx hb hw inX11 hown hK hP 0 rfl rfl 1 (by decide) (hw _ mP_138) (fun _ h9 => h9) rfl dX11_append_24 ?_
  refine lv_iload_n hx hb dX11_append_27 rfl (lv_at hl 2 rfl) ?_
  refine lv_iload_n hx hb dX11_append_28 rfl (lv_at hl 0 rfl) ?_
  refine lv_ishr hx hb dX11_append_29 ?_
  refine lv_topi (fun z1 ez1 => ?_)
  refine lv_i2b hx hb dX11_append_30 rfl ?_
  refine lv_topi (fun z2 ez2 => ?_)
  refine va_bast hx hb hK hP hD hS 1 0 rfl rfl (vin (by decide +kernel)) dX11_append_31 (fun H locs hP hD hS => ?_)
  obtain ⟨f3, hP, hD⟩ : ∃ f3 : Nat → Int32, va_P (dC, dI) vC [(h0, .inr (7, [.ref h1, .int 8, .ref h2, .int 0, .int (-1), .null, .null, .null, .null, .null, .null, .null, .null, .null, .null])), (h1, .inl (k0, 4000, .inl f3)), (h2, .inl (k1, 50, .inl (fun _ => 0)))] H ∧ va_D A [(h0, .inr (7, [.ref h1, .int 8, .ref h2, .int 0, .int (-1), .null, .null, .null, .null, .null, .null, .null, .null, .null, .null])), (h1, .inl (k0, 4000, .inl f3)), (h2, .inl (k1, 50, .inl (fun _ => 0)))] := ⟨_, hP, hD⟩
  refine lv_aload_n hx hb dX11_append_32 rfl (lv_at hl 1 rfl) ?_
  refine lv_dup hx hb dX11_append_33 rfl ?_
  refine va_get (D := (dC, dI)) (ci := 7) (v := .int 8) (C := RX11) (T := TX11) (N := 15) hx hb hw inX11 hown hK hP 0 rfl rfl 1 (by decide) (hw _ mP_138) (fun _ h9 => h9) rfl dX11_append_34 ?_
  refine lv_iconst (v := 1) hx hb dX11_append_37 (by decide) ?_
  refine lv_iadd hx hb dX11_append_38 ?_
  refine lv_nmi (y := 9) (by decide +kernel) ?_
  refine va_put (D := (dC, dI)) (ci := 7) (v := .int 9) (ty := .int) (C := RX11) (T := TX11) (N := 15) hx hb hw inX11 tyX11 tyX11_ok nmX11 hown hK hP hD hS 0 rfl rfl 1 (by decide) (hw _ mP_138) (fun _ h9 => h9) rfl (tyX11_ok 1 (by decide)) rfl rfl (Nat.le_of_ble_eq_true rfl) dX11_append_39 (fun H locs hP hD hS => ?_)
  have hP : va_P (dC, dI) vC [(h0, .inr (7, [.ref h1, .int 9, .ref h2, .int 0, .int (-1), .null, .null, .null, .null, .null, .null, .null, .null, .null, .null])), (h1, .inl (k0, 4000, .inl f3)), (h2, .inl (k1, 50, .inl (fun _ => 0)))] H := hP
  have hD : va_D A [(h0, .inr (7, [.ref h1, .int 9, .ref h2, .int 0, .int (-1), .null, .null, .null, .null, .null, .null, .null, .null, .null, .null])), (h1, .inl (k0, 4000, .inl f3)), (h2, .inl (k1, 50, .inl (fun _ => 0)))] := hD
  refine lv_iinc (v := 16) (lv' := [(2, .int 16), (0, .ref h0), (1, .int x0)]) hx hb dX11_append_42 hl (k := 0) rfl (by decide +kernel) (by decide) rfl (fun ls hl => ?_)
  refine lv_goto (tgt := 3) hx hb dX11_append_45 (by decide) ?_
  refine lv_iload_n hx hb dX11_append_3 rfl (lv_at hl 0 rfl) ?_
  refine lv_if_lt (tgt := 48) hx hb dX11_append_4 (by decide) (fun c => absurd c (by decide +kernel)) (fun _ => ?_)
  refine lv_aload_n hx hb dX11_append_7 rfl (lv_at hl 1 rfl) ?_
  refine va_get (D := (dC, dI)) (ci := 7) (v := .int 9) (C := RX11) (T := TX11) (N := 15) hx hb hw inX11 hown hK hP 0 rfl rfl 1 (by decide) (hw _ mP_138) (fun _ h9 => h9) rfl dX11_append_8 ?_
  refine lv_aload_n hx hb dX11_append_11 rfl (lv_at hl 1 rfl) ?_
  refine va_get (D := (dC, dI)) (ci := 7) (v := .ref h1) (C := RX11) (T := TX11) (N := 15) hx hb hw inX11 hown hK hP 0 rfl rfl 0 (by decide) (hw _ mP_31) (fun _ h9 => h9) rfl dX11_append_12 ?_
  refine va_alen (v := 4000) hx hb hK hP 1 0 rfl rfl (show Int32.ofNat 4000 = 4000 by decide +kernel) dX11_append_15 ?_
  refine lv_icmp_ge (tgt := 42) hx hb dX11_append_16 (by decide) (fun c => absurd c (by decide +kernel)) (fun _ => ?_)
  refine lv_aload_n hx hb dX11_append_19 rfl (lv_at hl 1 rfl) ?_
  refine va_get (D := (dC, dI)) (ci := 7) (v := .ref h1) (C := RX11) (T := TX11) (N := 15) hx hb hw inX11 hown hK hP 0 rfl rfl 0 (by decide) (hw _ mP_31) (fun _ h9 => h9) rfl dX11_append_20 ?_
  refine lv_aload_n hx hb dX11_append_23 rfl (lv_at hl 1 rfl) ?_
  refine va_get (D := (dC, dI)) (ci := 7) (v := .int 9) (C := RX11) (T := TX11) (N := 15) hx hb hw inX11 hown hK hP 0 rfl rfl 1 (by decide) (hw _ mP_138) (fun _ h9 => h9) rfl dX11_append_24 ?_
  refine lv_iload_n hx hb dX11_append_27 rfl (lv_at hl 2 rfl) ?_
  refine lv_iload_n hx hb dX11_append_28 rfl (lv_at hl 0 rfl) ?_
  refine lv_ishr hx hb dX11_append_29 ?_
  refine lv_topi (fun z4 ez4 => ?_)
  refine lv_i2b hx hb dX11_append_30 rfl ?_
  refine lv_topi (fun z5 ez5 => ?_)
  refine va_bast hx hb hK hP hD hS 1 0 rfl rfl (vin (by decide +kernel)) dX11_append_31 (fun H locs hP hD hS => ?_)
  obtain ⟨f6, hP, hD⟩ : ∃ f6 : Nat → Int32, va_P (dC, dI) vC [(h0, .inr (7, [.ref h1, .int 9, .ref h2, .int 0, .int (-1), .null, .null, .null, .null, .null, .null, .null, .null, .null, .null])), (h1, .inl (k0, 4000, .inl f6)), (h2, .inl (k1, 50, .inl (fun _ => 0)))] H ∧ va_D A [(h0, .inr (7, [.ref h1, .int 9, .ref h2, .int 0, .int (-1), .null, .null, .null, .null, .null, .null, .null, .null, .null, .null])), (h1, .inl (k0, 4000, .inl f6)), (h2, .inl (k1, 50, .inl (fun _ => 0)))] := ⟨_, hP, hD⟩
  refine lv_aload_n hx hb dX11_append_32 rfl (lv_at hl 1 rfl) ?_
  refine lv_dup hx hb dX11_append_33 rfl ?_
  refine va_get (D := (dC, dI)) (ci := 7) (v := .int 9) (C := RX11) (T := TX11) (N := 15) hx hb hw inX11 hown hK hP 0 rfl rfl 1 (by decide) (hw _ mP_138) (fun _ h9 => h9) rfl dX11_append_34 ?_
  refine lv_iconst (v := 1) hx hb dX11_append_37 (by decide) ?_
  refine lv_iadd hx hb dX11_append_38 ?_
  refine lv_nmi (y := 10) (by decide +kernel) ?_
  refine va_put (D := (dC, dI)) (ci := 7) (v := .int 10) (ty := .int) (C := RX11) (T := TX11) (N := 15) hx hb hw inX11 tyX11 tyX11_ok nmX11 hown hK hP hD hS 0 rfl rfl 1 (by decide) (hw _ mP_138) (fun _ h9 => h9) rfl (tyX11_ok 1 (by decide)) rfl rfl (Nat.le_of_ble_eq_true rfl) dX11_append_39 (fun H locs hP hD hS => ?_)
  have hP : va_P (dC, dI) vC [(h0, .inr (7, [.ref h1, .int 10, .ref h2, .int 0, .int (-1), .null, .null, .null, .null, .null, .null, .null, .null, .null, .null])), (h1, .inl (k0, 4000, .inl f6)), (h2, .inl (k1, 50, .inl (fun _ => 0)))] H := hP
  have hD : va_D A [(h0, .inr (7, [.ref h1, .int 10, .ref h2, .int 0, .int (-1), .null, .null, .null, .null, .null, .null, .null, .null, .null, .null])), (h1, .inl (k0, 4000, .inl f6)), (h2, .inl (k1, 50, .inl (fun _ => 0)))] := hD
  refine lv_iinc (v := 8) (lv' := [(2, .int 8), (0, .ref h0), (1, .int x0)]) hx hb dX11_append_42 hl (k := 0) rfl (by decide +kernel) (by decide) rfl (fun ls hl => ?_)
  refine lv_goto (tgt := 3) hx hb dX11_append_45 (by decide) ?_
  refine lv_iload_n hx hb dX11_append_3 rfl (lv_at hl 0 rfl) ?_
  refine lv_if_lt (tgt := 48) hx hb dX11_append_4 (by decide) (fun c => absurd c (by decide +kernel)) (fun _ => ?_)
  refine lv_aload_n hx hb dX11_append_7 rfl (lv_at hl 1 rfl) ?_
  refine va_get (D := (dC, dI)) (ci := 7) (v := .int 10) (C := RX11) (T := TX11) (N := 15) hx hb hw inX11 hown hK hP 0 rfl rfl 1 (by decide) (hw _ mP_138) (fun _ h9 => h9) rfl dX11_append_8 ?_
  refine lv_aload_n hx hb dX11_append_11 rfl (lv_at hl 1 rfl) ?_
  refine va_get (D := (dC, dI)) (ci := 7) (v := .ref h1) (C := RX11) (T := TX11) (N := 15) hx hb hw inX11 hown hK hP 0 rfl rfl 0 (by decide) (hw _ mP_31) (fun _ h9 => h9) rfl dX11_append_12 ?_
  refine va_alen (v := 4000) hx hb hK hP 1 0 rfl rfl (show Int32.ofNat 4000 = 4000 by decide +kernel) dX11_append_15 ?_
  refine lv_icmp_ge (tgt := 42) hx hb dX11_append_16 (by decide) (fun c => absurd c (by decide +kernel)) (fun _ => ?_)
  refine lv_aload_n hx hb dX11_append_19 rfl (lv_at hl 1 rfl) ?_
  refine va_get (D := (dC, dI)) (ci := 7) (v := .ref h1) (C := RX11) (T := TX11) (N := 15) hx hb hw inX11 hown hK hP 0 rfl rfl 0 (by decide) (hw _ mP_31) (fun _ h9 => h9) rfl dX11_append_20 ?_
  refine lv_aload_n hx hb dX11_append_23 rfl (lv_at hl 1 rfl) ?_
  refine va_get (D := (dC, dI)) (ci := 7) (v := .int 10) (C := RX11) (T := TX11) (N := 15) hx hb hw inX11 hown hK hP 0 rfl rfl 1 (by decide) (hw _ mP_138) (fun _ h9 => h9) rfl dX11_append_24 ?_
  refine lv_iload_n hx hb dX11_append_27 rfl (lv_at hl 2 rfl) ?_
  refine lv_iload_n hx hb dX11_append_28 rfl (lv_at hl 0 rfl) ?_
  refine lv_ishr hx hb dX11_append_29 ?_
  refine lv_topi (fun z7 ez7 => ?_)
  refine lv_i2b hx hb dX11_append_30 rfl ?_
  refine lv_topi (fun z8 ez8 => ?_)
  refine va_bast hx hb hK hP hD hS 1 0 rfl rfl (vin (by decide +kernel)) dX11_append_31 (fun H locs hP hD hS => ?_)
  obtain ⟨f9, hP, hD⟩ : ∃ f9 : Nat → Int32, va_P (dC, dI) vC [(h0, .inr (7, [.ref h1, .int 10, .ref h2, .int 0, .int (-1), .null, .null, .null, .null, .null, .null, .null, .null, .null, .null])), (h1, .inl (k0, 4000, .inl f9)), (h2, .inl (k1, 50, .inl (fun _ => 0)))] H ∧ va_D A [(h0, .inr (7, [.ref h1, .int 10, .ref h2, .int 0, .int (-1), .null, .null, .null, .null, .null, .null, .null, .null, .null, .null])), (h1, .inl (k0, 4000, .inl f9)), (h2, .inl (k1, 50, .inl (fun _ => 0)))] := ⟨_, hP, hD⟩
  refine lv_aload_n hx hb dX11_append_32 rfl (lv_at hl 1 rfl) ?_
  refine lv_dup hx hb dX11_append_33 rfl ?_
  refine va_get (D := (dC, dI)) (ci := 7) (v := .int 10) (C := RX11) (T := TX11) (N := 15) hx hb hw inX11 hown hK hP 0 rfl rfl 1 (by decide) (hw _ mP_138) (fun _ h9 => h9) rfl dX11_append_34 ?_
  refine lv_iconst (v := 1) hx hb dX11_append_37 (by decide) ?_
  refine lv_iadd hx hb dX11_append_38 ?_
  refine lv_nmi (y := 11) (by decide +kernel) ?_
  refine va_put (D := (dC, dI)) (ci := 7) (v := .int 11) (ty := .int) (C := RX11) (T := TX11) (N := 15) hx hb hw inX11 tyX11 tyX11_ok nmX11 hown hK hP hD hS 0 rfl rfl 1 (by decide) (hw _ mP_138) (fun _ h9 => h9) rfl (tyX11_ok 1 (by decide)) rfl rfl (Nat.le_of_ble_eq_true rfl) dX11_append_39 (fun H locs hP hD hS => ?_)
  have hP : va_P (dC, dI) vC [(h0, .inr (7, [.ref h1, .int 11, .ref h2, .int 0, .int (-1), .null, .null, .null, .null, .null, .null, .null, .null, .null, .null])), (h1, .inl (k0, 4000, .inl f9)), (h2, .inl (k1, 50, .inl (fun _ => 0)))] H := hP
  have hD : va_D A [(h0, .inr (7, [.ref h1, .int 11, .ref h2, .int 0, .int (-1), .null, .null, .null, .null, .null, .null, .null, .null, .null, .null])), (h1, .inl (k0, 4000, .inl f9)), (h2, .inl (k1, 50, .inl (fun _ => 0)))] := hD
  refine lv_iinc (v := 0) (lv' := [(2, .int 0), (0, .ref h0), (1, .int x0)]) hx hb dX11_append_42 hl (k := 0) rfl (by decide +kernel) (by decide) rfl (fun ls hl => ?_)
  refine lv_goto (tgt := 3) hx hb dX11_append_45 (by decide) ?_
  refine lv_iload_n hx hb dX11_append_3 rfl (lv_at hl 0 rfl) ?_
  refine lv_if_lt (tgt := 48) hx hb dX11_append_4 (by decide) (fun c => absurd c (by decide +kernel)) (fun _ => ?_)
  refine lv_aload_n hx hb dX11_append_7 rfl (lv_at hl 1 rfl) ?_
  refine va_get (D := (dC, dI)) (ci := 7) (v := .int 11) (C := RX11) (T := TX11) (N := 15) hx hb hw inX11 hown hK hP 0 rfl rfl 1 (by decide) (hw _ mP_138) (fun _ h9 => h9) rfl dX11_append_8 ?_
  refine lv_aload_n hx hb dX11_append_11 rfl (lv_at hl 1 rfl) ?_
  refine va_get (D := (dC, dI)) (ci := 7) (v := .ref h1) (C := RX11) (T := TX11) (N := 15) hx hb hw inX11 hown hK hP 0 rfl rfl 0 (by decide) (hw _ mP_31) (fun _ h9 => h9) rfl dX11_append_12 ?_
  refine va_alen (v := 4000) hx hb hK hP 1 0 rfl rfl (show Int32.ofNat 4000 = 4000 by decide +kernel) dX11_append_15 ?_
  refine lv_icmp_ge (tgt := 42) hx hb dX11_append_16 (by decide) (fun c => absurd c (by decide +kernel)) (fun _ => ?_)
  refine lv_aload_n hx hb dX11_append_19 rfl (lv_at hl 1 rfl) ?_
  refine va_get (D := (dC, dI)) (ci := 7) (v := .ref h1) (C := RX11) (T := TX11) (N := 15) hx hb hw inX11 hown hK hP 0 rfl rfl 0 (by decide) (hw _ mP_31) (fun _ h9 => h9) rfl dX11_append_20 ?_
  refine lv_aload_n hx hb dX11_append_23 rfl (lv_at hl 1 rfl) ?_
  refine va_get (D := (dC, dI)) (ci := 7) (v := .int 11) (C := RX11) (T := TX11) (N := 15) hx hb hw inX11 hown hK hP 0 rfl rfl 1 (by decide) (hw _ mP_138) (fun _ h9 => h9) rfl dX11_append_24 ?_
  refine lv_iload_n hx hb dX11_append_27 rfl (lv_at hl 2 rfl) ?_
  refine lv_iload_n hx hb dX11_append_28 rfl (lv_at hl 0 rfl) ?_
  refine lv_ishr hx hb dX11_append_29 ?_
  refine lv_topi (fun z10 ez10 => ?_)
  refine lv_i2b hx hb dX11_append_30 rfl ?_
  refine lv_topi (fun z11 ez11 => ?_)
  refine va_bast hx hb hK hP hD hS 1 0 rfl rfl (vin (by decide +kernel)) dX11_append_31 (fun H locs hP hD hS => ?_)
  obtain ⟨f12, hP, hD⟩ : ∃ f12 : Nat → Int32, va_P (dC, dI) vC [(h0, .inr (7, [.ref h1, .int 11, .ref h2, .int 0, .int (-1), .null, .null, .null, .null, .null, .null, .null, .null, .null, .null])), (h1, .inl (k0, 4000, .inl f12)), (h2, .inl (k1, 50, .inl (fun _ => 0)))] H ∧ va_D A [(h0, .inr (7, [.ref h1, .int 11, .ref h2, .int 0, .int (-1), .null, .null, .null, .null, .null, .null, .null, .null, .null, .null])), (h1, .inl (k0, 4000, .inl f12)), (h2, .inl (k1, 50, .inl (fun _ => 0)))] := ⟨_, hP, hD⟩
  refine lv_aload_n hx hb dX11_append_32 rfl (lv_at hl 1 rfl) ?_
  refine lv_dup hx hb dX11_append_33 rfl ?_
  refine va_get (D := (dC, dI)) (ci := 7) (v := .int 11) (C := RX11) (T := TX11) (N := 15) hx hb hw inX11 hown hK hP 0 rfl rfl 1 (by decide) (hw _ mP_138) (fun _ h9 => h9) rfl dX11_append_34 ?_
  refine lv_iconst (v := 1) hx hb dX11_append_37 (by decide) ?_
  refine lv_iadd hx hb dX11_append_38 ?_
  refine lv_nmi (y := 12) (by decide +kernel) ?_
  refine va_put (D := (dC, dI)) (ci := 7) (v := .int 12) (ty := .int) (C := RX11) (T := TX11) (N := 15) hx hb hw inX11 tyX11 tyX11_ok nmX11 hown hK hP hD hS 0 rfl rfl 1 (by decide) (hw _ mP_138) (fun _ h9 => h9) rfl (tyX11_ok 1 (by decide)) rfl rfl (Nat.le_of_ble_eq_true rfl) dX11_append_39 (fun H locs hP hD hS => ?_)
  have hP : va_P (dC, dI) vC [(h0, .inr (7, [.ref h1, .int 12, .ref h2, .int 0, .int (-1), .null, .null, .null, .null, .null, .null, .null, .null, .null, .null])), (h1, .inl (k0, 4000, .inl f12)), (h2, .inl (k1, 50, .inl (fun _ => 0)))] H := hP
  have hD : va_D A [(h0, .inr (7, [.ref h1, .int 12, .ref h2, .int 0, .int (-1), .null, .null, .null, .null, .null, .null, .null, .null, .null, .null])), (h1, .inl (k0, 4000, .inl f12)), (h2, .inl (k1, 50, .inl (fun _ => 0)))] := hD
  refine lv_iinc (v := (-8)) (lv' := [(2, .int (-8)), (0, .ref h0), (1, .int x0)]) hx hb dX11_append_42 hl (k := 0) rfl (by decide +kernel) (by decide) rfl (fun ls hl => ?_)
  refine lv_goto (tgt := 3) hx hb dX11_append_45 (by decide) ?_
  refine lv_iload_n hx hb dX11_append_3 rfl (lv_at hl 0 rfl) ?_
  refine lv_if_lt (tgt := 48) hx hb dX11_append_4 (by decide) (fun _ => ?_) (fun c => absurd (by decide +kernel) c)
  refine W.widen (k := 0) (n := 0) (Nat.le_of_ble_eq_true rfl) (Nat.le_of_ble_eq_true rfl) ?_
  exact W.vret hx hb hr (fun t ht hW => ⟨⟨(), rfl, trivial, f12, by rw [ht]; exact hP, va_K.moved hW.alike hK, hD⟩, hS.F ht⟩) hS.2.2 dX11_append_48
