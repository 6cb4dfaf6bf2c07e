set_option maxHeartbeats 4000000 in
set_option maxRecDepth 100000 in
theorem whole_start {p : Program} {e : Env} {s : State} {m : MethodId} {below : List Frame} {meth : Method} {c : Code} (l : Launch) {b L : Nat} {xs : Nat → Int32} (hL : L ≤ 6) (C0 : lw_At p s m meth c b L xs) : W p l e room_1 s m #[Value.ref b] below meth c s.heap [] 0 0 (lw_Z below #[Value.ref b] s) (entryFrame m ([Value.ref b] : List Value).toArray 4) := by
  obtain ⟨hx, hb, hr, hml, hown, hts, hSc, hbl, hlocks, hgv⟩ := C0
  have hw : ∀ w ∈ wP, w.before #[Value.ref b] s = true := fun w h => hts w (wP_in w h)
  have hA : ∀ q : Nat, s.heap.size ≤ q → (fun q : Nat => s.heap.size ≤ q) q := fun _ h => h
  have hbA : ¬ (fun q : Nat => s.heap.size ≤ q) b := Nat.not_le.mpr hbl
  obtain ⟨kK, kV, hX⟩ := Xt_start hts hgv
  obtain ⟨dC, dI, hKc⟩ := known_all hw
  have hS : va_S (fun q : Nat => s.heap.size ≤ q) s.heap s.heap [] := va_S.rf
  have hK : va_K (dC, dI) vC [] s := ⟨hKc, fun k q h => by simp at h⟩
  have hP : va_P (dC, dI) vC [] s.heap := va_nilP
  have hD : va_D (fun q : Nat => s.heap.size ≤ q) [] := va_nilD
  have hl := lv_entry ([.ref b]) (n := 4) (Nat.le_of_ble_eq_true rfl)
  rw [lg_entry_eq]
  generalize (lg_sl ([.ref b]) ++ List.replicate (4 - (lg_sl ([.ref b])).length) Slot.unset).toArray = ls at hl ⊢
  have hl : lv_has ls 4 [(0, .ref b)] := hl
  refine va_new (ci := 7) (fs := [.null, .int 0, .null, .int 0, .int 0, .null, .null, .null, .null, .null, .null, .null, .null, .null, .null]) (C := RX11) (T := TX11) (N := 15) hx hb hw inX11 tyX11 tyX11_ok hown (hw _ mP_24) (hw _ mP_25) (hw _ mP_26) hK hP hD hS hA rfl dfX11 (Nat.le_of_ble_eq_true rfl) (Nat.le_of_ble_eq_true rfl) dL_law_0 (fun q1 H hP hD hS => ?_)
  have hP : va_P (dC, dI) vC [(q1, .inr (7, [.null, .int 0, .null, .int 0, .int 0, .null, .null, .null, .null, .null, .null, .null, .null, .null, .null]))] H := hP
  have hD : va_D (fun q : Nat => s.heap.size ≤ q) [(q1, .inr (7, [.null, .int 0, .null, .int 0, .int 0, .null, .null, .null, .null, .null, .null, .null, .null, .null, .null]))] := hD
  refine W.widen (k := 1) (n := 15) (Nat.le_of_ble_eq_true rfl) (Nat.le_of_ble_eq_true rfl) ?_
  refine lv_dup hx hb dL_law_3 rfl ?_
  have hPc := hP.sub (ws' := [(q1, .inr (7, [.null, .int 0, .null, .int 0, .int 0, .null, .null, .null, .null, .null, .null, .null, .null, .null, .null]))]) [0] rfl
  have hDc := hD.sub (ws' := [(q1, .inr (7, [.null, .int 0, .null, .int 0, .int 0, .null, .null, .null, .null, .null, .null, .null, .null, .null, .null]))]) [0] (by decide) rfl
  have hKc := hK.sub (tys' := []) [] rfl
  have hFc := va_free (wc := [(q1, .inr (7, [.null, .int 0, .null, .int 0, .int 0, .null, .null, .null, .null, .null, .null, .null, .null, .null, .null]))]) hD hS hA [0] rfl
  refine va_callv (va_runI (As := []) (rest := [.ref q1]) ⟨hx, hb, hml, hown, hw⟩ (tX11_init_n1 l dC dI q1 H.size) ⟨callB_of 0 hw (gd mP_35) rfl rfl rfl (hw _ mP_26) (hw _ mP_36) hdX11_init ⟨Nat.le_of_ble_eq_true rfl, Nat.le_of_ble_eq_true rfl⟩, rfl, (hw _ mP_37)⟩ ⟨fbz, prz hPc hKc hDc⟩ rfl rfl hl.1 rfl (lv_room (Nat.le_of_ble_eq_true rfl)) dL_law_4 ⟨Nat.le_of_ble_eq_true rfl, Nat.le_of_ble_eq_true rfl⟩) hS (fun q _ h => hFc q h) hFc (fun u2 t H1 locs ht hvm hpo hB hz1 hk1 hS => ?_)
  obtain ⟨q3, q4, b5, b6, hP1, hK1, hD1⟩ := hB
  rw [ht] at hP1
  have hK1 := va_K.moved hvm.symm hK1
  obtain ⟨hP, hD⟩ := va_join (wr := []) (w1 := [(q1, .inr (7, [.ref q3, .int 0, .ref q4, .int 0, .int (-1), .null, .null, .null, .null, .null, .null, .null, .null, .null, .null])), (q3, .inl (b5, 4000, .inl (fun _ => 0))), (q4, .inl (b6, 50, .inl (fun _ => 0)))]) hP hD [0] [] rfl rfl (by decide) (by decide) hk1 hFc hP1 hD1
  have hK := (hK.sub (tys' := []) [] rfl).app hK1
  generalize H1 = H at hP hS ⊢
  have hP : va_P (dC, dI) vC [(q1, .inr (7, [.ref q3, .int 0, .ref q4, .int 0, .int (-1), .null, .null, .null, .null, .null, .null, .null, .null, .null, .null])), (q3, .inl (b5, 4000, .inl (fun _ => 0))), (q4, .inl (b6, 50, .inl (fun _ => 0)))] H := hP
  have hD : va_D (fun q : Nat => s.heap.size ≤ q) [(q1, .inr (7, [.ref q3, .int 0, .ref q4, .int 0, .int (-1), .null, .null, .null, .null, .null, .null, .null, .null, .null, .null])), (q3, .inl (b5, 4000, .inl (fun _ => 0))), (q4, .inl (b6, 50, .inl (fun _ => 0)))] := hD
  have hK : va_K (dC, dI) vC [(b5, .byte), (b6, .int)] s := hK
  refine W.widen (k := 3) (n := 4065) (Nat.le_of_ble_eq_true rfl) (Nat.le_of_ble_eq_true rfl) ?_
  refine lv_astore_n (lv' := [(1, .ref q1), (0, .ref b)]) hx hb dL_law_7 rfl hl (by decide) rfl (fun ls hl => ?_)
  refine va_new (ci := 8) (fs := [.int 0, .null, .null, .int 0, .null, .int 0, .null, .null, .null, .null, .int 0, .int 0, .int 0, .int 0, .int 0, .null, .null, .null, .null, .null, .null, .null, .null, .null, .null, .null, .null, .null, .null, .null, .null, .null, .null, .null, .null, .null, .null, .null, .null, .null, .null, .null, .null, .null, .null, .null, .int 0, .null, .null, .null, .null, .null, .null, .null, .null, .null, .int 0, .int 0, .int 0, .null, .null, .null, .null, .null, .null, .null, .null, .int 0, .null, .null, .null, .null, .int 0, .int 0, .null, .int 0, .null, .null, .null, .int 0, .int 0, .null, .null, .null, .null, .null, .null, .null, .null, .null, .null, .null, .null, .int 0, .null, .null, .null, .null, .null, .null, .null, .null, .null, .null, .null]) (C := RX12) (T := TX12) (N := 105) hx hb hw inX12 tyX12 tyX12_ok hown (hw _ mP_38) (hw _ mP_39) (hw _ mP_40) hK hP hD hS hA rfl dfX12 (Nat.le_of_ble_eq_true rfl) (Nat.le_of_ble_eq_true rfl) dL_law_8 (fun q7 H hP hD hS => ?_)
  obtain ⟨fs8, hF, hP, hD⟩ : ∃ fs8 : List Value, MF fs8 [.null, .null, .int 0, .int 0, .null, .null, .null, .int 0, .int 0, .int 0, .int 0, .int 0, .null, .null, .null, .null, .null, .null, .null, .int 0, .int 0, .int 0, .int 0, .null, .null, .int 0] ∧ va_P (dC, dI) vC [(q1, .inr (7, [.ref q3, .int 0, .ref q4, .int 0, .int (-1), .null, .null, .null, .null, .null, .null, .null, .null, .null, .null])), (q3, .inl (b5, 4000, .inl (fun _ => 0))), (q4, .inl (b6, 50, .inl (fun _ => 0))), (q7, .inr (8, fs8))] H ∧ va_D (fun q : Nat => s.heap.size ≤ q) [(q1, .inr (7, [.ref q3, .int 0, .ref q4, .int 0, .int (-1), .null, .null, .null, .null, .null, .null, .null, .null, .null, .null])), (q3, .inl (b5, 4000, .inl (fun _ => 0))), (q4, .inl (b6, 50, .inl (fun _ => 0))), (q7, .inr (8, fs8))] := ⟨_, ⟨rfl, rfl⟩, hP, hD⟩
  refine W.widen (k := 4) (n := 4170) (Nat.le_of_ble_eq_true rfl) (Nat.le_of_ble_eq_true rfl) ?_
  refine lv_dup hx hb dL_law_11 rfl ?_
  have hPc := hP.sub (ws' := [(q7, .inr (8, fs8))]) [3] rfl
  have hDc := hD.sub (ws' := [(q7, .inr (8, fs8))]) [3] (by decide) rfl
  have hKc := hK.sub (tys' := []) [] rfl
  have hFc := va_free (wc := [(q7, .inr (8, fs8))]) hD hS hA [3] rfl
  refine va_callv (va_runI (As := []) (rest := [.ref q7]) ⟨hx, hb, hml, hown, hw⟩ (tX12_init_n1 l dC dI q7 H.size fs8 hF) ⟨callB_of 0 hw (gd mP_135) rfl rfl rfl (hw _ mP_40) (hw _ mP_136) hdX12_init ⟨Nat.le_of_ble_eq_true rfl, Nat.le_of_ble_eq_true rfl⟩, rfl, (hw _ mP_137)⟩ ⟨fbz, prz hPc hKc hDc⟩ rfl rfl hl.1 rfl (lv_room (Nat.le_of_ble_eq_true rfl)) dL_law_12 ⟨Nat.le_of_ble_eq_true rfl, Nat.le_of_ble_eq_true rfl⟩) hS (fun q _ h => hFc q h) hFc (fun u9 t H1 locs ht hvm hpo hB hz1 hk1 hS => ?_)
  obtain ⟨q10, q11, q12, q13, q14, q15, q16, q17, q18, q19, q20, q21, q22, q23, b24, b25, b26, b27, b28, b29, b30, b31, b32, b33, b34, b35, b36, fs37, hF, hP1, hK1, hD1⟩ := hB
  rw [ht] at hP1
  have hK1 := va_K.moved hvm.symm hK1
  obtain ⟨hP, hD⟩ := va_join (wr := [(q1, .inr (7, [.ref q3, .int 0, .ref q4, .int 0, .int (-1), .null, .null, .null, .null, .null, .null, .null, .null, .null, .null])), (q3, .inl (b5, 4000, .inl (fun _ => 0))), (q4, .inl (b6, 50, .inl (fun _ => 0)))]) (w1 := [(q7, .inr (8, fs37)), (q10, .inl (b24, 4000, .inl (fun _ => 0))), (q11, .inl (b25, 1203, .inl (fun _ => 0))), (q12, .inl (b26, 1203, .inl (fun _ => 0))), (q13, .inl (b27, 1203, .inl (fun _ => 0))), (q14, .inl (b28, 2, .inl (fun _ => 0))), (q15, .inl (b29, 2, .inl (fun _ => 0))), (q16, .inl (b30, 2, .inl (fun _ => 0))), (q17, .inl (b31, 2, .inl (fun _ => 0))), (q18, .inl (b32, 2, .inl (fun _ => 0))), (q19, .inl (b33, 2, .inl (fun _ => 0))), (q20, .inl (b34, 2, .inl (fun _ => 0))), (q21, .inl (b35, 50, .inl (fun _ => 0))), (q22, .inl (b36, 2, .inl (upd (fun _ => 0) (0 : Int32).toNatClampNeg (vp_nar .boolean 0))))]) hP hD [3] [0, 1, 2] rfl rfl (by decide) (by decide) hk1 hFc hP1 hD1
  have hK := (hK.sub (tys' := [(b5, .byte), (b6, .int)]) [0, 1] rfl).app hK1
  generalize H1 = H at hP hS ⊢
  have hP : va_P (dC, dI) vC [(q1, .inr (7, [.ref q3, .int 0, .ref q4, .int 0, .int (-1), .null, .null, .null, .null, .null, .null, .null, .null, .null, .null])), (q3, .inl (b5, 4000, .inl (fun _ => 0))), (q4, .inl (b6, 50, .inl (fun _ => 0))), (q7, .inr (8, fs37)), (q10, .inl (b24, 4000, .inl (fun _ => 0))), (q11, .inl (b25, 1203, .inl (fun _ => 0))), (q12, .inl (b26, 1203, .inl (fun _ => 0))), (q13, .inl (b27, 1203, .inl (fun _ => 0))), (q14, .inl (b28, 2, .inl (fun _ => 0))), (q15, .inl (b29, 2, .inl (fun _ => 0))), (q16, .inl (b30, 2, .inl (fun _ => 0))), (q17, .inl (b31, 2, .inl (fun _ => 0))), (q18, .inl (b32, 2, .inl (fun _ => 0))), (q19, .inl (b33, 2, .inl (fun _ => 0))), (q20, .inl (b34, 2, .inl (fun _ => 0))), (q21, .inl (b35, 50, .inl (fun _ => 0))), (q22, .inl (b36, 2, .inl (upd (fun _ => 0) (0 : Int32).toNatClampNeg (vp_nar .boolean 0))))] H := hP
  have hD : va_D (fun q : Nat => s.heap.size ≤ q) [(q1, .inr (7, [.ref q3, .int 0, .ref q4, .int 0, .int (-1), .null, .null, .null, .null, .null, .null, .null, .null, .null, .null])), (q3, .inl (b5, 4000, .inl (fun _ => 0))), (q4, .inl (b6, 50, .inl (fun _ => 0))), (q7, .inr (8, fs37)), (q10, .inl (b24, 4000, .inl (fun _ => 0))), (q11, .inl (b25, 1203, .inl (fun _ => 0))), (q12, .inl (b26, 1203, .inl (fun _ => 0))), (q13, .inl (b27, 1203, .inl (fun _ => 0))), (q14, .inl (b28, 2, .inl (fun _ => 0))), (q15, .inl (b29, 2, .inl (fun _ => 0))), (q16, .inl (b30, 2, .inl (fun _ => 0))), (q17, .inl (b31, 2, .inl (fun _ => 0))), (q18, .inl (b32, 2, .inl (fun _ => 0))), (q19, .inl (b33, 2, .inl (fun _ => 0))), (q20, .inl (b34, 2, .inl (fun _ => 0))), (q21, .inl (b35, 50, .inl (fun _ => 0))), (q22, .inl (b36, 2, .inl (upd (fun _ => 0) (0 : Int32).toNatClampNeg (vp_nar .boolean 0))))] := hD
  have hK : va_K (dC, dI) vC [(b5, .byte), (b6, .int), (b24, .byte), (b25, .int), (b26, .int), (b27, .int), (b28, .int), (b29, .int), (b30, .int), (b31, .int), (b32, .int), (b33, .int), (b34, .int), (b35, .int), (b36, .boolean)] s := hK
  refine W.widen (k := 90) (n := 643148) (Nat.le_of_ble_eq_true rfl) (Nat.le_of_ble_eq_true rfl) ?_
  refine lv_astore_n (lv' := [(2, .ref q7), (1, .ref q1), (0, .ref b)]) hx hb dL_law_15 rfl hl (by decide) rfl (fun ls hl => ?_)
  refine lv_iconst (v := 0) hx hb dL_law_16 (by decide) ?_
  refine lv_istore_n (lv' := [(3, .int 0), (2, .ref q7), (1, .ref q1), (0, .ref b)]) hx hb dL_law_17 rfl hl (by decide) rfl (fun ls hl => ?_)
  exact law_head hx hb hr hml hown hw hSc hbl hlocks hL hX hF hK hP hD hS (lv_sub hl [0, 1, 2, 3] rfl)
