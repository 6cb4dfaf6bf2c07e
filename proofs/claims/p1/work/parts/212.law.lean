set_option maxHeartbeats 4000000 in
set_option maxRecDepth 100000 in
theorem law_20 {p : Program} {l : Launch} {e : Env} {s : State} {m : MethodId} {below : List Frame} {meth : Method} {c : Code} {b : Nat} {xs : Nat → Int32} {dC : Nat → ClassId} {dI : Nat → Nat → Nat} {q1 q3 q4 q7 q10 q11 q12 q13 q14 q15 q16 q17 q18 q19 q20 q21 q22 q23 : Nat} {b5 b6 b24 b25 b26 b27 b28 b29 b30 b31 b32 b33 b34 b35 b36 : ClassId} {kK kV : Nat} {fs37 : List Value} (hx : p.tables.exec = Jvm.exec) (hb : c.code = code) (hr : meth.sig.returnType = ret) (hml : c.maxLocals = 4) (hown : s.vm.findClass RL = some m.cls) (hw : ∀ w ∈ wP, w.before #[Value.ref b] s = true) (hSc : va_X b 6 xs s s.heap) (hbl : b < s.heap.size) (hlocks : meth.locks = false) (hX : Xt kK kV (fun q : Nat => s.heap.size ≤ q) s s.heap) (hF : MF fs37 [.ref q23, .ref q10, .int 0, .int 0, .ref q11, .ref q12, .ref q13, .int 0, .int 0, .int 0, .int (-1), .int (-1), .ref q14, .ref q15, .ref q16, .ref q17, .ref q18, .ref q19, .ref q20, .int 0, .int 0, .int 0, .int 0, .ref q22, .ref q21, .int 0]) (hK : va_K (dC, dI) vC [(b5, .byte), (b6, .int), (b24, .byte), (b25, .int), (b26, .int), (b27, .int), (b28, .int), (b29, .int), (b30, .int), (b31, .int), (b32, .int), (b33, .int), (b34, .int), (b35, .int), (b36, .boolean)] s) {H : Heap} {locs : List Loc} {ls : Array Slot} (hP : va_P (dC, dI) vC [(q1, .inr (7, [.ref q3, .int 0, .ref q4, .int 0, .int (-1), .null, .null, .null, .null, .null, .null, .null, .null, .null, .null])), (q3, .inl (b5, 4000, .inl (fun _ => 0))), (q4, .inl (b6, 50, .inl (fun _ => 0))), (q7, .inr (8, fs37)), (q10, .inl (b24, 4000, .inl (fun _ => 0))), (q11, .inl (b25, 1203, .inl (fun _ => 0))), (q12, .inl (b26, 1203, .inl (fun _ => 0))), (q13, .inl (b27, 1203, .inl (fun _ => 0))), (q14, .inl (b28, 2, .inl (fun _ => 0))), (q15, .inl (b29, 2, .inl (fun _ => 0))), (q16, .inl (b30, 2, .inl (fun _ => 0))), (q17, .inl (b31, 2, .inl (fun _ => 0))), (q18, .inl (b32, 2, .inl (fun _ => 0))), (q19, .inl (b33, 2, .inl (fun _ => 0))), (q20, .inl (b34, 2, .inl (fun _ => 0))), (q21, .inl (b35, 50, .inl (fun _ => 0))), (q22, .inl (b36, 2, .inl (upd (fun _ => 0) (0 : Int32).toNatClampNeg (vp_nar .boolean 0))))] H) (hD : va_D (fun q : Nat => s.heap.size ≤ q) [(q1, .inr (7, [.ref q3, .int 0, .ref q4, .int 0, .int (-1), .null, .null, .null, .null, .null, .null, .null, .null, .null, .null])), (q3, .inl (b5, 4000, .inl (fun _ => 0))), (q4, .inl (b6, 50, .inl (fun _ => 0))), (q7, .inr (8, fs37)), (q10, .inl (b24, 4000, .inl (fun _ => 0))), (q11, .inl (b25, 1203, .inl (fun _ => 0))), (q12, .inl (b26, 1203, .inl (fun _ => 0))), (q13, .inl (b27, 1203, .inl (fun _ => 0))), (q14, .inl (b28, 2, .inl (fun _ => 0))), (q15, .inl (b29, 2, .inl (fun _ => 0))), (q16, .inl (b30, 2, .inl (fun _ => 0))), (q17, .inl (b31, 2, .inl (fun _ => 0))), (q18, .inl (b32, 2, .inl (fun _ => 0))), (q19, .inl (b33, 2, .inl (fun _ => 0))), (q20, .inl (b34, 2, .inl (fun _ => 0))), (q21, .inl (b35, 50, .inl (fun _ => 0))), (q22, .inl (b36, 2, .inl (upd (fun _ => 0) (0 : Int32).toNatClampNeg (vp_nar .boolean 0))))]) (hS : va_S (fun q : Nat => s.heap.size ≤ q) s.heap H locs) (hl : lv_has ls 4 [(3, .int 0), (2, .ref q7), (1, .ref q1), (0, .ref b)]) : W p l e room_1 s m #[Value.ref b] below meth c H locs 90 643148 (lw_Z below #[Value.ref b] s) (F0 m 764 ls []) := by
  have hA : ∀ q : Nat, s.heap.size ≤ q → (fun q : Nat => s.heap.size ≤ q) q := fun _ h => h
  have hbA : ¬ (fun q : Nat => s.heap.size ≤ q) b := Nat.not_le.mpr hbl
  refine lv_aload_n hx hb dL_law_764 rfl (lv_at hl 2 rfl) ?_
  refine lv_aload_n hx hb dL_law_765 rfl (lv_at hl 3 rfl) ?_
  refine lv_iload_n hx hb dL_law_766 rfl (lv_at hl 0 rfl) ?_
  refine lv_iconst (v := 1) hx hb dL_law_767 (by decide) ?_
  refine lv_iadd hx hb dL_law_768 ?_
  refine lv_nmi (y := 1) (by decide +kernel) ?_
  refine va_sld hx hb hSc hbl hbA hS (vin (by decide +kernel)) dL_law_769 ?_
  refine lv_nmi (y := xs 1) (congrArg xs (by decide +kernel)) ?_
  refine lv_if_eq (tgt := 777) hx hb dL_law_770 (by decide) (fun c1 => ?_) (fun c1 => ?_)
  · refine lv_iconst (v := 0) hx hb dL_law_777 (by decide) ?_
    refine lv_aload_n hx hb dL_law_778 rfl (lv_at hl 3 rfl) ?_
    refine lv_iload_n hx hb dL_law_779 rfl (lv_at hl 0 rfl) ?_
    refine lv_iconst (v := 2) hx hb dL_law_780 (by decide) ?_
    refine lv_iadd hx hb dL_law_781 ?_
    refine lv_nmi (y := 2) (by decide +kernel) ?_
    refine va_sld hx hb hSc hbl hbA hS (vin (by decide +kernel)) dL_law_782 ?_
    refine lv_nmi (y := xs 2) (congrArg xs (by decide +kernel)) ?_
    have hPc := hP.sub (ws' := [(q1, .inr (7, [.ref q3, .int 0, .ref q4, .int 0, .int (-1), .null, .null, .null, .null, .null, .null, .null, .null, .null, .null])), (q3, .inl (b5, 4000, .inl (fun _ => 0))), (q4, .inl (b6, 50, .inl (fun _ => 0)))]) [0, 1, 2] rfl
    have hDc := hD.sub (ws' := [(q1, .inr (7, [.ref q3, .int 0, .ref q4, .int 0, .int (-1), .null, .null, .null, .null, .null, .null, .null, .null, .null, .null])), (q3, .inl (b5, 4000, .inl (fun _ => 0))), (q4, .inl (b6, 50, .inl (fun _ => 0)))]) [0, 1, 2] (by decide) rfl
    have hKc := hK.sub (tys' := [(b5, .byte), (b6, .int)]) [0, 1] rfl
    have hFc := va_free (wc := [(q1, .inr (7, [.ref q3, .int 0, .ref q4, .int 0, .int (-1), .null, .null, .null, .null, .null, .null, .null, .null, .null, .null])), (q3, .inl (b5, 4000, .inl (fun _ => 0))), (q4, .inl (b6, 50, .inl (fun _ => 0)))]) hD hS hA [0, 1, 2] rfl
    refine va_calli (va_runV (As := [.int 0, .int (xs 2)]) (rest := []) ⟨hx, hb, hml, hown, hw⟩ (tX11_memory_n1 l dC dI q1 q3 q4 H.size b5 b6 (xs 2)) ⟨callB_of 2 hw (gd mP_563) rfl rfl rfl (hw _ mP_26) (hw _ mP_564) hdX11_memory ⟨Nat.le_of_ble_eq_true rfl, Nat.le_of_ble_eq_true rfl⟩, (hw _ mP_565), (hw _ mP_566)⟩ ⟨fbz, va_recv hKc hPc (ci := 7) (q0 := 0) rfl rfl, prz hPc hKc hDc⟩ rfl rfl hl.1 rfl (lv_room (Nat.le_of_ble_eq_true rfl)) dL_law_783 ⟨Nat.le_of_ble_eq_true rfl, Nat.le_of_ble_eq_true rfl⟩) hS (fun q _ h => hFc q h) hFc (fun r2 u2 t H1 locs ht hvm hpo hB hz1 hk1 hS => ?_)
    have hP1 : va_P (dC, dI) vC [] H1 := va_nilP
    have hD1 : va_D (va_A [(q1, .inr (7, [.ref q3, .int 0, .ref q4, .int 0, .int (-1), .null, .null, .null, .null, .null, .null, .null, .null, .null, .null])), (q3, .inl (b5, 4000, .inl (fun _ => 0))), (q4, .inl (b6, 50, .inl (fun _ => 0)))] H.size) [] := va_nilD
    obtain ⟨hP, hD⟩ := va_join (wr := [(q7, .inr (8, fs37)), (q10, .inl (b24, 4000, .inl (fun _ => 0))), (q11, .inl (b25, 1203, .inl (fun _ => 0))), (q12, .inl (b26, 1203, .inl (fun _ => 0))), (q13, .inl (b27, 1203, .inl (fun _ => 0))), (q14, .inl (b28, 2, .inl (fun _ => 0))), (q15, .inl (b29, 2, .inl (fun _ => 0))), (q16, .inl (b30, 2, .inl (fun _ => 0))), (q17, .inl (b31, 2, .inl (fun _ => 0))), (q18, .inl (b32, 2, .inl (fun _ => 0))), (q19, .inl (b33, 2, .inl (fun _ => 0))), (q20, .inl (b34, 2, .inl (fun _ => 0))), (q21, .inl (b35, 50, .inl (fun _ => 0))), (q22, .inl (b36, 2, .inl (upd (fun _ => 0) (0 : Int32).toNatClampNeg (vp_nar .boolean 0))))]) (w1 := []) hP hD [0, 1, 2] [3, 4, 5, 6, 7, 8, 9, 10, 11, 12, 13, 14, 15, 16] rfl rfl (by decide) (by decide) hk1 hFc hP1 hD1
    have hK := hK.sub (tys' := [(b24, .byte), (b25, .int), (b26, .int), (b27, .int), (b28, .int), (b29, .int), (b30, .int), (b31, .int), (b32, .int), (b33, .int), (b34, .int), (b35, .int), (b36, .boolean)]) [2, 3, 4, 5, 6, 7, 8, 9, 10, 11, 12, 13, 14] rfl
    generalize H1 = H at hP hS ⊢
    have hP : va_P (dC, dI) vC [(q7, .inr (8, fs37)), (q10, .inl (b24, 4000, .inl (fun _ => 0))), (q11, .inl (b25, 1203, .inl (fun _ => 0))), (q12, .inl (b26, 1203, .inl (fun _ => 0))), (q13, .inl (b27, 1203, .inl (fun _ => 0))), (q14, .inl (b28, 2, .inl (fun _ => 0))), (q15, .inl (b29, 2, .inl (fun _ => 0))), (q16, .inl (b30, 2, .inl (fun _ => 0))), (q17, .inl (b31, 2, .inl (fun _ => 0))), (q18, .inl (b32, 2, .inl (fun _ => 0))), (q19, .inl (b33, 2, .inl (fun _ => 0))), (q20, .inl (b34, 2, .inl (fun _ => 0))), (q21, .inl (b35, 50, .inl (fun _ => 0))), (q22, .inl (b36, 2, .inl (upd (fun _ => 0) (0 : Int32).toNatClampNeg (vp_nar .boolean 0))))] H := hP
    have hD : va_D (fun q : Nat => s.heap.size ≤ q) [(q7, .inr (8, fs37)), (q10, .inl (b24, 4000, .inl (fun _ => 0))), (q11, .inl (b25, 1203, .inl (fun _ => 0))), (q12, .inl (b26, 1203, .inl (fun _ => 0))), (q13, .inl (b27, 1203, .inl (fun _ => 0))), (q14, .inl (b28, 2, .inl (fun _ => 0))), (q15, .inl (b29, 2, .inl (fun _ => 0))), (q16, .inl (b30, 2, .inl (fun _ => 0))), (q17, .inl (b31, 2, .inl (fun _ => 0))), (q18, .inl (b32, 2, .inl (fun _ => 0))), (q19, .inl (b33, 2, .inl (fun _ => 0))), (q20, .inl (b34, 2, .inl (fun _ => 0))), (q21, .inl (b35, 50, .inl (fun _ => 0))), (q22, .inl (b36, 2, .inl (upd (fun _ => 0) (0 : Int32).toNatClampNeg (vp_nar .boolean 0))))] := hD
    have hK : va_K (dC, dI) vC [(b24, .byte), (b25, .int), (b26, .int), (b27, .int), (b28, .int), (b29, .int), (b30, .int), (b31, .int), (b32, .int), (b33, .int), (b34, .int), (b35, .int), (b36, .boolean)] s := hK
    have hpo : r2 = 0 := hpo
    subst hpo
    refine lv_aload_n hx hb dL_law_786 rfl (lv_at hl 1 rfl) ?_
    refine lv_aload_n hx hb dL_law_787 rfl (lv_at hl 3 rfl) ?_
    refine lv_iload_n hx hb dL_law_788 rfl (lv_at hl 0 rfl) ?_
    refine lv_iconst (v := 1) hx hb dL_law_789 (by decide) ?_
    refine lv_iadd hx hb dL_law_790 ?_
    refine lv_nmi (y := 1) (by decide +kernel) ?_
    refine va_sld hx hb hSc hbl hbA hS (vin (by decide +kernel)) dL_law_791 ?_
    refine lv_nmi (y := xs 1) (congrArg xs (by decide +kernel)) ?_
    refine lv_if_eq (tgt := 799) hx hb dL_law_792 (by decide) (fun c3 => ?_) (fun c3 => ?_)
    · refine lv_iconst (v := 0) hx hb dL_law_799 (by decide) ?_
      refine lv_aload_n hx hb dL_law_800 rfl (lv_at hl 3 rfl) ?_
      refine lv_iload_n hx hb dL_law_801 rfl (lv_at hl 0 rfl) ?_
      refine lv_iconst (v := 2) hx hb dL_law_802 (by decide) ?_
      refine lv_iadd hx hb dL_law_803 ?_
      refine lv_nmi (y := 2) (by decide +kernel) ?_
      refine va_sld hx hb hSc hbl hbA hS (vin (by decide +kernel)) dL_law_804 ?_
      refine lv_nmi (y := xs 2) (congrArg xs (by decide +kernel)) ?_
      have hPc := hP.sub (ws' := [(q7, .inr (8, fs37)), (q10, .inl (b24, 4000, .inl (fun _ => 0))), (q11, .inl (b25, 1203, .inl (fun _ => 0))), (q12, .inl (b26, 1203, .inl (fun _ => 0))), (q13, .inl (b27, 1203, .inl (fun _ => 0))), (q14, .inl (b28, 2, .inl (fun _ => 0))), (q15, .inl (b29, 2, .inl (fun _ => 0))), (q16, .inl (b30, 2, .inl (fun _ => 0))), (q17, .inl (b31, 2, .inl (fun _ => 0))), (q18, .inl (b32, 2, .inl (fun _ => 0))), (q19, .inl (b33, 2, .inl (fun _ => 0))), (q20, .inl (b34, 2, .inl (fun _ => 0))), (q21, .inl (b35, 50, .inl (fun _ => 0))), (q22, .inl (b36, 2, .inl (upd (fun _ => 0) (0 : Int32).toNatClampNeg (vp_nar .boolean 0))))]) [0, 1, 2, 3, 4, 5, 6, 7, 8, 9, 10, 11, 12, 13] rfl
      have hDc := hD.sub (ws' := [(q7, .inr (8, fs37)), (q10, .inl (b24, 4000, .inl (fun _ => 0))), (q11, .inl (b25, 1203, .inl (fun _ => 0))), (q12, .inl (b26, 1203, .inl (fun _ => 0))), (q13, .inl (b27, 1203, .inl (fun _ => 0))), (q14, .inl (b28, 2, .inl (fun _ => 0))), (q15, .inl (b29, 2, .inl (fun _ => 0))), (q16, .inl (b30, 2, .inl (fun _ => 0))), (q17, .inl (b31, 2, .inl (fun _ => 0))), (q18, .inl (b32, 2, .inl (fun _ => 0))), (q19, .inl (b33, 2, .inl (fun _ => 0))), (q20, .inl (b34, 2, .inl (fun _ => 0))), (q21, .inl (b35, 50, .inl (fun _ => 0))), (q22, .inl (b36, 2, .inl (upd (fun _ => 0) (0 : Int32).toNatClampNeg (vp_nar .boolean 0))))]) [0, 1, 2, 3, 4, 5, 6, 7, 8, 9, 10, 11, 12, 13] (by decide) rfl
      have hKc := hK.sub (tys' := [(b24, .byte), (b25, .int), (b26, .int), (b27, .int), (b28, .int), (b29, .int), (b30, .int), (b31, .int), (b32, .int), (b33, .int), (b34, .int), (b35, .int), (b36, .boolean)]) [0, 1, 2, 3, 4, 5, 6, 7, 8, 9, 10, 11, 12] rfl
      have hFc := va_free (wc := [(q7, .inr (8, fs37)), (q10, .inl (b24, 4000, .inl (fun _ => 0))), (q11, .inl (b25, 1203, .inl (fun _ => 0))), (q12, .inl (b26, 1203, .inl (fun _ => 0))), (q13, .inl (b27, 1203, .inl (fun _ => 0))), (q14, .inl (b28, 2, .inl (fun _ => 0))), (q15, .inl (b29, 2, .inl (fun _ => 0))), (q16, .inl (b30, 2, .inl (fun _ => 0))), (q17, .inl (b31, 2, .inl (fun _ => 0))), (q18, .inl (b32, 2, .inl (fun _ => 0))), (q19, .inl (b33, 2, .inl (fun _ => 0))), (q20, .inl (b34, 2, .inl (fun _ => 0))), (q21, .inl (b35, 50, .inl (fun _ => 0))), (q22, .inl (b36, 2, .inl (upd (fun _ => 0) (0 : Int32).toNatClampNeg (vp_nar .boolean 0))))]) hD hS hA [0, 1, 2, 3, 4, 5, 6, 7, 8, 9, 10, 11, 12, 13] rfl
      refine va_calli (va_runV (As := [.int 0, .int (xs 2)]) (rest := [.int 0]) ⟨hx, hb, hml, hown, hw⟩ (tX12_memory_n1 l dC dI q7 q10 q11 q12 q13 q14 q15 q16 q17 q18 q19 q20 q21 q22 q23 H.size b24 b25 b26 b27 b28 b29 b30 b31 b32 b33 b34 b35 b36 (xs 2) fs37 hF) ⟨callB_of 2 hw (gd mP_567) rfl rfl rfl (hw _ mP_40) (hw _ mP_568) hdX12_memory ⟨Nat.le_of_ble_eq_true rfl, Nat.le_of_ble_eq_true rfl⟩, (hw _ mP_569), (hw _ mP_570)⟩ ⟨fbz, va_recv hKc hPc (ci := 8) (q0 := 0) rfl rfl, prz hPc hKc hDc⟩ rfl rfl hl.1 rfl (lv_room (Nat.le_of_ble_eq_true rfl)) dL_law_805 ⟨Nat.le_of_ble_eq_true rfl, Nat.le_of_ble_eq_true rfl⟩) hS (fun q _ h => hFc q h) hFc (fun r4 u4 t H1 locs ht hvm hpo hB hz1 hk1 hS => ?_)
      have hP1 : va_P (dC, dI) vC [] H1 := va_nilP
      have hD1 : va_D (va_A [(q7, .inr (8, fs37)), (q10, .inl (b24, 4000, .inl (fun _ => 0))), (q11, .inl (b25, 1203, .inl (fun _ => 0))), (q12, .inl (b26, 1203, .inl (fun _ => 0))), (q13, .inl (b27, 1203, .inl (fun _ => 0))), (q14, .inl (b28, 2, .inl (fun _ => 0))), (q15, .inl (b29, 2, .inl (fun _ => 0))), (q16, .inl (b30, 2, .inl (fun _ => 0))), (q17, .inl (b31, 2, .inl (fun _ => 0))), (q18, .inl (b32, 2, .inl (fun _ => 0))), (q19, .inl (b33, 2, .inl (fun _ => 0))), (q20, .inl (b34, 2, .inl (fun _ => 0))), (q21, .inl (b35, 50, .inl (fun _ => 0))), (q22, .inl (b36, 2, .inl (upd (fun _ => 0) (0 : Int32).toNatClampNeg (vp_nar .boolean 0))))] H.size) [] := va_nilD
      obtain ⟨hP, hD⟩ := va_join (wr := []) (w1 := []) hP hD [0, 1, 2, 3, 4, 5, 6, 7, 8, 9, 10, 11, 12, 13] [] rfl rfl (by decide) (by decide) hk1 hFc hP1 hD1
      have hK := hK.sub (tys' := []) [] rfl
      generalize H1 = H at hP hS ⊢
      have hP : va_P (dC, dI) vC [] H := hP
      have hD : va_D (fun q : Nat => s.heap.size ≤ q) [] := hD
      have hK : va_K (dC, dI) vC [] s := hK
      have hpo : r4 = 0 := hpo
      subst hpo
      refine lv_icmp_eq (tgt := 836) hx hb dL_law_808 (by decide) (fun _ => ?_) (fun c => absurd (by decide +kernel) c)
      exact law_end hx hb hr hml hown hw hSc hbl hlocks (Nat.le_of_ble_eq_true rfl) (Nat.le_of_ble_eq_true rfl) hS (lv_sub hl [3, 0] rfl)
    · refine lv_iconst (v := 1) hx hb dL_law_795 (by decide) ?_
      refine lv_goto (tgt := 800) hx hb dL_law_796 (by decide) ?_
      refine lv_aload_n hx hb dL_law_800 rfl (lv_at hl 3 rfl) ?_
      refine lv_iload_n hx hb dL_law_801 rfl (lv_at hl 0 rfl) ?_
      refine lv_iconst (v := 2) hx hb dL_law_802 (by decide) ?_
      refine lv_iadd hx hb dL_law_803 ?_
      refine lv_nmi (y := 2) (by decide +kernel) ?_
      refine va_sld hx hb hSc hbl hbA hS (vin (by decide +kernel)) dL_law_804 ?_
      refine lv_nmi (y := xs 2) (congrArg xs (by decide +kernel)) ?_
      have hPc := hP.sub (ws' := [(q7, .inr (8, fs37)), (q10, .inl (b24, 4000, .inl (fun _ => 0))), (q11, .inl (b25, 1203, .inl (fun _ => 0))), (q12, .inl (b26, 1203, .inl (fun _ => 0))), (q13, .inl (b27, 1203, .inl (fun _ => 0))), (q14, .inl (b28, 2, .inl (fun _ => 0))), (q15, .inl (b29, 2, .inl (fun _ => 0))), (q16, .inl (b30, 2, .inl (fun _ => 0))), (q17, .inl (b31, 2, .inl (fun _ => 0))), (q18, .inl (b32, 2, .inl (fun _ => 0))), (q19, .inl (b33, 2, .inl (fun _ => 0))), (q20, .inl (b34, 2, .inl (fun _ => 0))), (q21, .inl (b35, 50, .inl (fun _ => 0))), (q22, .inl (b36, 2, .inl (upd (fun _ => 0) (0 : Int32).toNatClampNeg (vp_nar .boolean 0))))]) [0, 1, 2, 3, 4, 5, 6, 7, 8, 9, 10, 11, 12, 13] rfl
      have hDc := hD.sub (ws' := [(q7, .inr (8, fs37)), (q10, .inl (b24, 4000, .inl (fun _ => 0))), (q11, .inl (b25, 1203, .inl (fun _ => 0))), (q12, .inl (b26, 1203, .inl (fun _ => 0))), (q13, .inl (b27, 1203, .inl (fun _ => 0))), (q14, .inl (b28, 2, .inl (fun _ => 0))), (q15, .inl (b29, 2, .inl (fun _ => 0))), (q16, .inl (b30, 2, .inl (fun _ => 0))), (q17, .inl (b31, 2, .inl (fun _ => 0))), (q18, .inl (b32, 2, .inl (fun _ => 0))), (q19, .inl (b33, 2, .inl (fun _ => 0))), (q20, .inl (b34, 2, .inl (fun _ => 0))), (q21, .inl (b35, 50, .inl (fun _ => 0))), (q22, .inl (b36, 2, .inl (upd (fun _ => 0) (0 : Int32).toNatClampNeg (vp_nar .boolean 0))))]) [0, 1, 2, 3, 4, 5, 6, 7, 8, 9, 10, 11, 12, 13] (by decide) rfl
      have hKc := hK.sub (tys' := [(b24, .byte), (b25, .int), (b26, .int), (b27, .int), (b28, .int), (b29, .int), (b30, .int), (b31, .int), (b32, .int), (b33, .int), (b34, .int), (b35, .int), (b36, .boolean)]) [0, 1, 2, 3, 4, 5, 6, 7, 8, 9, 10, 11, 12] rfl
      have hFc := va_free (wc := [(q7, .inr (8, fs37)), (q10, .inl (b24, 4000, .inl (fun _ => 0))), (q11, .inl (b25, 1203, .inl (fun _ => 0))), (q12, .inl (b26, 1203, .inl (fun _ => 0))), (q13, .inl (b27, 1203, .inl (fun _ => 0))), (q14, .inl (b28, 2, .inl (fun _ => 0))), (q15, .inl (b29, 2, .inl (fun _ => 0))), (q16, .inl (b30, 2, .inl (fun _ => 0))), (q17, .inl (b31, 2, .inl (fun _ => 0))), (q18, .inl (b32, 2, .inl (fun _ => 0))), (q19, .inl (b33, 2, .inl (fun _ => 0))), (q20, .inl (b34, 2, .inl (fun _ => 0))), (q21, .inl (b35, 50, .inl (fun _ => 0))), (q22, .inl (b36, 2, .inl (upd (fun _ => 0) (0 : Int32).toNatClampNeg (vp_nar .boolean 0))))]) hD hS hA [0, 1, 2, 3, 4, 5, 6, 7, 8, 9, 10, 11, 12, 13] rfl
      refine va_calli (va_runV (As := [.int 1, .int (xs 2)]) (rest := [.int 0]) ⟨hx, hb, hml, hown, hw⟩ (tX12_memory_n2 l dC dI q7 q10 q11 q12 q13 q14 q15 q16 q17 q18 q19 q20 q21 q22 q23 H.size b24 b25 b26 b27 b28 b29 b30 b31 b32 b33 b34 b35 b36 (xs 2) fs37 hF) ⟨callB_of 2 hw (gd mP_567) rfl rfl rfl (hw _ mP_40) (hw _ mP_568) hdX12_memory ⟨Nat.le_of_ble_eq_true rfl, Nat.le_of_ble_eq_true rfl⟩, (hw _ mP_569), (hw _ mP_570)⟩ ⟨fbz, va_recv hKc hPc (ci := 8) (q0 := 0) rfl rfl, prz hPc hKc hDc⟩ rfl rfl hl.1 rfl (lv_room (Nat.le_of_ble_eq_true rfl)) dL_law_805 ⟨Nat.le_of_ble_eq_true rfl, Nat.le_of_ble_eq_true rfl⟩) hS (fun q _ h => hFc q h) hFc (fun r5 u5 t H1 locs ht hvm hpo hB hz1 hk1 hS => ?_)
      have hP1 : va_P (dC, dI) vC [] H1 := va_nilP
      have hD1 : va_D (va_A [(q7, .inr (8, fs37)), (q10, .inl (b24, 4000, .inl (fun _ => 0))), (q11, .inl (b25, 1203, .inl (fun _ => 0))), (q12, .inl (b26, 1203, .inl (fun _ => 0))), (q13, .inl (b27, 1203, .inl (fun _ => 0))), (q14, .inl (b28, 2, .inl (fun _ => 0))), (q15, .inl (b29, 2, .inl (fun _ => 0))), (q16, .inl (b30, 2, .inl (fun _ => 0))), (q17, .inl (b31, 2, .inl (fun _ => 0))), (q18, .inl (b32, 2, .inl (fun _ => 0))), (q19, .inl (b33, 2, .inl (fun _ => 0))), (q20, .inl (b34, 2, .inl (fun _ => 0))), (q21, .inl (b35, 50, .inl (fun _ => 0))), (q22, .inl (b36, 2, .inl (upd (fun _ => 0) (0 : Int32).toNatClampNeg (vp_nar .boolean 0))))] H.size) [] := va_nilD
      obtain ⟨hP, hD⟩ := va_join (wr := []) (w1 := []) hP hD [0, 1, 2, 3, 4, 5, 6, 7, 8, 9, 10, 11, 12, 13] [] rfl rfl (by decide) (by decide) hk1 hFc hP1 hD1
      have hK := hK.sub (tys' := []) [] rfl
      generalize H1 = H at hP hS ⊢
      have hP : va_P (dC, dI) vC [] H := hP
      have hD : va_D (fun q : Nat => s.heap.size ≤ q) [] := hD
      have hK : va_K (dC, dI) vC [] s := hK
      have hpo : r5 = 0 := hpo
      subst hpo
      refine lv_icmp_eq (tgt := 836) hx hb dL_law_808 (by decide) (fun _ => ?_) (fun c => absurd (by decide +kernel) c)
      exact law_end hx hb hr hml hown hw hSc hbl hlocks (Nat.le_of_ble_eq_true rfl) (Nat.le_of_ble_eq_true rfl) hS (lv_sub hl [3, 0] rfl)
  · refine lv_iconst (v := 1) hx hb dL_law_773 (by decide) ?_
    refine lv_goto (tgt := 778) hx hb dL_law_774 (by decide) ?_
    refine lv_aload_n hx hb dL_law_778 rfl (lv_at hl 3 rfl) ?_
    refine lv_iload_n hx hb dL_law_779 rfl (lv_at hl 0 rfl) ?_
    refine lv_iconst (v := 2) hx hb dL_law_780 (by decide) ?_
    refine lv_iadd hx hb dL_law_781 ?_
    refine lv_nmi (y := 2) (by decide +kernel) ?_
    refine va_sld hx hb hSc hbl hbA hS (vin (by decide +kernel)) dL_law_782 ?_
    refine lv_nmi (y := xs 2) (congrArg xs (by decide +kernel)) ?_
    have hPc := hP.sub (ws' := [(q1, .inr (7, [.ref q3, .int 0, .ref q4, .int 0, .int (-1), .null, .null, .null, .null, .null, .null, .null, .null, .null, .null])), (q3, .inl (b5, 4000, .inl (fun _ => 0))), (q4, .inl (b6, 50, .inl (fun _ => 0)))]) [0, 1, 2] rfl
    have hDc := hD.sub (ws' := [(q1, .inr (7, [.ref q3, .int 0, .ref q4, .int 0, .int (-1), .null, .null, .null, .null, .null, .null, .null, .null, .null, .null])), (q3, .inl (b5, 4000, .inl (fun _ => 0))), (q4, .inl (b6, 50, .inl (fun _ => 0)))]) [0, 1, 2] (by decide) rfl
    have hKc := hK.sub (tys' := [(b5, .byte), (b6, .int)]) [0, 1] rfl
    have hFc := va_free (wc := [(q1, .inr (7, [.ref q3, .int 0, .ref q4, .int 0, .int (-1), .null, .null, .null, .null, .null, .null, .null, .null, .null, .null])), (q3, .inl (b5, 4000, .inl (fun _ => 0))), (q4, .inl (b6, 50, .inl (fun _ => 0)))]) hD hS hA [0, 1, 2] rfl
    refine va_calli (va_runV (As := [.int 1, .int (xs 2)]) (rest := []) ⟨hx, hb, hml, hown, hw⟩ (tX11_memory_n2 l dC dI q1 q3 q4 H.size b5 b6 (xs 2)) ⟨callB_of 2 hw (gd mP_563) rfl rfl rfl (hw _ mP_26) (hw _ mP_564) hdX11_memory ⟨Nat.le_of_ble_eq_true rfl, Nat.le_of_ble_eq_true rfl⟩, (hw _ mP_565), (hw _ mP_566)⟩ ⟨fbz, va_recv hKc hPc (ci := 7) (q0 := 0) rfl rfl, prz hPc hKc hDc⟩ rfl rfl hl.1 rfl (lv_room (Nat.le_of_ble_eq_true rfl)) dL_law_783 ⟨Nat.le_of_ble_eq_true rfl, Nat.le_of_ble_eq_true rfl⟩) hS (fun q _ h => hFc q h) hFc (fun r6 u6 t H1 locs ht hvm hpo hB hz1 hk1 hS => ?_)
    have hP1 : va_P (dC, dI) vC [] H1 := va_nilP
    have hD1 : va_D (va_A [(q1, .inr (7, [.ref q3, .int 0, .ref q4, .int 0, .int (-1), .null, .null, .null, .null, .null, .null, .null, .null, .null, .null])), (q3, .inl (b5, 4000, .inl (fun _ => 0))), (q4, .inl (b6, 50, .inl (fun _ => 0)))] H.size) [] := va_nilD
    obtain ⟨hP, hD⟩ := va_join (wr := [(q7, .inr (8, fs37)), (q10, .inl (b24, 4000, .inl (fun _ => 0))), (q11, .inl (b25, 1203, .inl (fun _ => 0))), (q12, .inl (b26, 1203, .inl (fun _ => 0))), (q13, .inl (b27, 1203, .inl (fun _ => 0))), (q14, .inl (b28, 2, .inl (fun _ => 0))), (q15, .inl (b29, 2, .inl (fun _ => 0))), (q16, .inl (b30, 2, .inl (fun _ => 0))), (q17, .inl (b31, 2, .inl (fun _ => 0))), (q18, .inl (b32, 2, .inl (fun _ => 0))), (q19, .inl (b33, 2, .inl (fun _ => 0))), (q20, .inl (b34, 2, .inl (fun _ => 0))), (q21, .inl (b35, 50, .inl (fun _ => 0))), (q22, .inl (b36, 2, .inl (upd (fun _ => 0) (0 : Int32).toNatClampNeg (vp_nar .boolean 0))))]) (w1 := []) hP hD [0, 1, 2] [3, 4, 5, 6, 7, 8, 9, 10, 11, 12, 13, 14, 15, 16] rfl rfl (by decide) (by decide) hk1 hFc hP1 hD1
    have hK := hK.sub (tys' := [(b24, .byte), (b25, .int), (b26, .int), (b27, .int), (b28, .int), (b29, .int), (b30, .int), (b31, .int), (b32, .int), (b33, .int), (b34, .int), (b35, .int), (b36, .boolean)]) [2, 3, 4, 5, 6, 7, 8, 9, 10, 11, 12, 13, 14] rfl
    generalize H1 = H at hP hS ⊢
    have hP : va_P (dC, dI) vC [(q7, .inr (8, fs37)), (q10, .inl (b24, 4000, .inl (fun _ => 0))), (q11, .inl (b25, 1203, .inl (fun _ => 0))), (q12, .inl (b26, 1203, .inl (fun _ => 0))), (q13, .inl (b27, 1203, .inl (fun _ => 0))), (q14, .inl (b28, 2, .inl (fun _ => 0))), (q15, .inl (b29, 2, .inl (fun _ => 0))), (q16, .inl (b30, 2, .inl (fun _ => 0))), (q17, .inl (b31, 2, .inl (fun _ => 0))), (q18, .inl (b32, 2, .inl (fun _ => 0))), (q19, .inl (b33, 2, .inl (fun _ => 0))), (q20, .inl (b34, 2, .inl (fun _ => 0))), (q21, .inl (b35, 50, .inl (fun _ => 0))), (q22, .inl (b36, 2, .inl (upd (fun _ => 0) (0 : Int32).toNatClampNeg (vp_nar .boolean 0))))] H := hP
    have hD : va_D (fun q : Nat => s.heap.size ≤ q) [(q7, .inr (8, fs37)), (q10, .inl (b24, 4000, .inl (fun _ => 0))), (q11, .inl (b25, 1203, .inl (fun _ => 0))), (q12, .inl (b26, 1203, .inl (fun _ => 0))), (q13, .inl (b27, 1203, .inl (fun _ => 0))), (q14, .inl (b28, 2, .inl (fun _ => 0))), (q15, .inl (b29, 2, .inl (fun _ => 0))), (q16, .inl (b30, 2, .inl (fun _ => 0))), (q17, .inl (b31, 2, .inl (fun _ => 0))), (q18, .inl (b32, 2, .inl (fun _ => 0))), (q19, .inl (b33, 2, .inl (fun _ => 0))), (q20, .inl (b34, 2, .inl (fun _ => 0))), (q21, .inl (b35, 50, .inl (fun _ => 0))), (q22, .inl (b36, 2, .inl (upd (fun _ => 0) (0 : Int32).toNatClampNeg (vp_nar .boolean 0))))] := hD
    have hK : va_K (dC, dI) vC [(b24, .byte), (b25, .int), (b26, .int), (b27, .int), (b28, .int), (b29, .int), (b30, .int), (b31, .int), (b32, .int), (b33, .int), (b34, .int), (b35, .int), (b36, .boolean)] s := hK
    have hpo : r6 = 0 := hpo
    subst hpo
    refine lv_aload_n hx hb dL_law_786 rfl (lv_at hl 1 rfl) ?_
    refine lv_aload_n hx hb dL_law_787 rfl (lv_at hl 3 rfl) ?_
    refine lv_iload_n hx hb dL_law_788 rfl (lv_at hl 0 rfl) ?_
    refine lv_iconst (v := 1) hx hb dL_law_789 (by decide) ?_
    refine lv_iadd hx hb dL_law_790 ?_
    refine lv_nmi (y := 1) (by decide +kernel) ?_
    refine va_sld hx hb hSc hbl hbA hS (vin (by decide +kernel)) dL_law_791 ?_
    refine lv_nmi (y := xs 1) (congrArg xs (by decide +kernel)) ?_
    refine lv_if_eq (tgt := 799) hx hb dL_law_792 (by decide) (fun c7 => ?_) (fun c7 => ?_)
    · refine lv_iconst (v := 0) hx hb dL_law_799 (by decide) ?_
      refine lv_aload_n hx hb dL_law_800 rfl (lv_at hl 3 rfl) ?_
      refine lv_iload_n hx hb dL_law_801 rfl (lv_at hl 0 rfl) ?_
      refine lv_iconst (v := 2) hx hb dL_law_802 (by decide) ?_
      refine lv_iadd hx hb dL_law_803 ?_
      refine lv_nmi (y := 2) (by decide +kernel) ?_
      refine va_sld hx hb hSc hbl hbA hS (vin (by decide +kernel)) dL_law_804 ?_
      refine lv_nmi (y := xs 2) (congrArg xs (by decide +kernel)) ?_
      have hPc := hP.sub (ws' := [(q7, .inr (8, fs37)), (q10, .inl (b24, 4000, .inl (fun _ => 0))), (q11, .inl (b25, 1203, .inl (fun _ => 0))), (q12, .inl (b26, 1203, .inl (fun _ => 0))), (q13, .inl (b27, 1203, .inl (fun _ => 0))), (q14, .inl (b28, 2, .inl (fun _ => 0))), (q15, .inl (b29, 2, .inl (fun _ => 0))), (q16, .inl (b30, 2, .inl (fun _ => 0))), (q17, .inl (b31, 2, .inl (fun _ => 0))), (q18, .inl (b32, 2, .inl (fun _ => 0))), (q19, .inl (b33, 2, .inl (fun _ => 0))), (q20, .inl (b34, 2, .inl (fun _ => 0))), (q21, .inl (b35, 50, .inl (fun _ => 0))), (q22, .inl (b36, 2, .inl (upd (fun _ => 0) (0 : Int32).toNatClampNeg (vp_nar .boolean 0))))]) [0, 1, 2, 3, 4, 5, 6, 7, 8, 9, 10, 11, 12, 13] rfl
      have hDc := hD.sub (ws' := [(q7, .inr (8, fs37)), (q10, .inl (b24, 4000, .inl (fun _ => 0))), (q11, .inl (b25, 1203, .inl (fun _ => 0))), (q12, .inl (b26, 1203, .inl (fun _ => 0))), (q13, .inl (b27, 1203, .inl (fun _ => 0))), (q14, .inl (b28, 2, .inl (fun _ => 0))), (q15, .inl (b29, 2, .inl (fun _ => 0))), (q16, .inl (b30, 2, .inl (fun _ => 0))), (q17, .inl (b31, 2, .inl (fun _ => 0))), (q18, .inl (b32, 2, .inl (fun _ => 0))), (q19, .inl (b33, 2, .inl (fun _ => 0))), (q20, .inl (b34, 2, .inl (fun _ => 0))), (q21, .inl (b35, 50, .inl (fun _ => 0))), (q22, .inl (b36, 2, .inl (upd (fun _ => 0) (0 : Int32).toNatClampNeg (vp_nar .boolean 0))))]) [0, 1, 2, 3, 4, 5, 6, 7, 8, 9, 10, 11, 12, 13] (by decide) rfl
      have hKc := hK.sub (tys' := [(b24, .byte), (b25, .int), (b26, .int), (b27, .int), (b28, .int), (b29, .int), (b30, .int), (b31, .int), (b32, .int), (b33, .int), (b34, .int), (b35, .int), (b36, .boolean)]) [0, 1, 2, 3, 4, 5, 6, 7, 8, 9, 10, 11, 12] rfl
      have hFc := va_free (wc := [(q7, .inr (8, fs37)), (q10, .inl (b24, 4000, .inl (fun _ => 0))), (q11, .inl (b25, 1203, .inl (fun _ => 0))), (q12, .inl (b26, 1203, .inl (fun _ => 0))), (q13, .inl (b27, 1203, .inl (fun _ => 0))), (q14, .inl (b28, 2, .inl (fun _ => 0))), (q15, .inl (b29, 2, .inl (fun _ => 0))), (q16, .inl (b30, 2, .inl (fun _ => 0))), (q17, .inl (b31, 2, .inl (fun _ => 0))), (q18, .inl (b32, 2, .inl (fun _ => 0))), (q19, .inl (b33, 2, .inl (fun _ => 0))), (q20, .inl (b34, 2, .inl (fun _ => 0))), (q21, .inl (b35, 50, .inl (fun _ => 0))), (q22, .inl (b36, 2, .inl (upd (fun _ => 0) (0 : Int32).toNatClampNeg (vp_nar .boolean 0))))]) hD hS hA [0, 1, 2, 3, 4, 5, 6, 7, 8, 9, 10, 11, 12, 13] rfl
      refine va_calli (va_runV (As := [.int 0, .int (xs 2)]) (rest := [.int 0]) ⟨hx, hb, hml, hown, hw⟩ (tX12_memory_n1 l dC dI q7 q10 q11 q12 q13 q14 q15 q16 q17 q18 q19 q20 q21 q22 q23 H.size b24 b25 b26 b27 b28 b29 b30 b31 b32 b33 b34 b35 b36 (xs 2) fs37 hF) ⟨callB_of 2 hw (gd mP_567) rfl rfl rfl (hw _ mP_40) (hw _ mP_568) hdX12_memory ⟨Nat.le_of_ble_eq_true rfl, Nat.le_of_ble_eq_true rfl⟩, (hw _ mP_569), (hw _ mP_570)⟩ ⟨fbz, va_recv hKc hPc (ci := 8) (q0 := 0) rfl rfl, prz hPc hKc hDc⟩ rfl rfl hl.1 rfl (lv_room (Nat.le_of_ble_eq_true rfl)) dL_law_805 ⟨Nat.le_of_ble_eq_true rfl, Nat.le_of_ble_eq_true rfl⟩) hS (fun q _ h => hFc q h) hFc (fun r8 u8 t H1 locs ht hvm hpo hB hz1 hk1 hS => ?_)
      have hP1 : va_P (dC, dI) vC [] H1 := va_nilP
      have hD1 : va_D (va_A [(q7, .inr (8, fs37)), (q10, .inl (b24, 4000, .inl (fun _ => 0))), (q11, .inl (b25, 1203, .inl (fun _ => 0))), (q12, .inl (b26, 1203, .inl (fun _ => 0))), (q13, .inl (b27, 1203, .inl (fun _ => 0))), (q14, .inl (b28, 2, .inl (fun _ => 0))), (q15, .inl (b29, 2, .inl (fun _ => 0))), (q16, .inl (b30, 2, .inl (fun _ => 0))), (q17, .inl (b31, 2, .inl (fun _ => 0))), (q18, .inl (b32, 2, .inl (fun _ => 0))), (q19, .inl (b33, 2, .inl (fun _ => 0))), (q20, .inl (b34, 2, .inl (fun _ => 0))), (q21, .inl (b35, 50, .inl (fun _ => 0))), (q22, .inl (b36, 2, .inl (upd (fun _ => 0) (0 : Int32).toNatClampNeg (vp_nar .boolean 0))))] H.size) [] := va_nilD
      obtain ⟨hP, hD⟩ := va_join (wr := []) (w1 := []) hP hD [0, 1, 2, 3, 4, 5, 6, 7, 8, 9, 10, 11, 12, 13] [] rfl rfl (by decide) (by decide) hk1 hFc hP1 hD1
      have hK := hK.sub (tys' := []) [] rfl
      generalize H1 = H at hP hS ⊢
      have hP : va_P (dC, dI) vC [] H := hP
      have hD : va_D (fun q : Nat => s.heap.size ≤ q) [] := hD
      have hK : va_K (dC, dI) vC [] s := hK
      have hpo : r8 = 0 := hpo
      subst hpo
      refine lv_icmp_eq (tgt := 836) hx hb dL_law_808 (by decide) (fun _ => ?_) (fun c => absurd (by decide +kernel) c)
      exact law_end hx hb hr hml hown hw hSc hbl hlocks (Nat.le_of_ble_eq_true rfl) (Nat.le_of_ble_eq_true rfl) hS (lv_sub hl [3, 0] rfl)
    · refine lv_iconst (v := 1) hx hb dL_law_795 (by decide) ?_
      refine lv_goto (tgt := 800) hx hb dL_law_796 (by decide) ?_
      refine lv_aload_n hx hb dL_law_800 rfl (lv_at hl 3 rfl) ?_
      refine lv_iload_n hx hb dL_law_801 rfl (lv_at hl 0 rfl) ?_
      refine lv_iconst (v := 2) hx hb dL_law_802 (by decide) ?_
      refine lv_iadd hx hb dL_law_803 ?_
      refine lv_nmi (y := 2) (by decide +kernel) ?_
      refine va_sld hx hb hSc hbl hbA hS (vin (by decide +kernel)) dL_law_804 ?_
      refine lv_nmi (y := xs 2) (congrArg xs (by decide +kernel)) ?_
      have hPc := hP.sub (ws' := [(q7, .inr (8, fs37)), (q10, .inl (b24, 4000, .inl (fun _ => 0))), (q11, .inl (b25, 1203, .inl (fun _ => 0))), (q12, .inl (b26, 1203, .inl (fun _ => 0))), (q13, .inl (b27, 1203, .inl (fun _ => 0))), (q14, .inl (b28, 2, .inl (fun _ => 0))), (q15, .inl (b29, 2, .inl (fun _ => 0))), (q16, .inl (b30, 2, .inl (fun _ => 0))), (q17, .inl (b31, 2, .inl (fun _ => 0))), (q18, .inl (b32, 2, .inl (fun _ => 0))), (q19, .inl (b33, 2, .inl (fun _ => 0))), (q20, .inl (b34, 2, .inl (fun _ => 0))), (q21, .inl (b35, 50, .inl (fun _ => 0))), (q22, .inl (b36, 2, .inl (upd (fun _ => 0) (0 : Int32).toNatClampNeg (vp_nar .boolean 0))))]) [0, 1, 2, 3, 4, 5, 6, 7, 8, 9, 10, 11, 12, 13] rfl
      have hDc := hD.sub (ws' := [(q7, .inr (8, fs37)), (q10, .inl (b24, 4000, .inl (fun _ => 0))), (q11, .inl (b25, 1203, .inl (fun _ => 0))), (q12, .inl (b26, 1203, .inl (fun _ => 0))), (q13, .inl (b27, 1203, .inl (fun _ => 0))), (q14, .inl (b28, 2, .inl (fun _ => 0))), (q15, .inl (b29, 2, .inl (fun _ => 0))), (q16, .inl (b30, 2, .inl (fun _ => 0))), (q17, .inl (b31, 2, .inl (fun _ => 0))), (q18, .inl (b32, 2, .inl (fun _ => 0))), (q19, .inl (b33, 2, .inl (fun _ => 0))), (q20, .inl (b34, 2, .inl (fun _ => 0))), (q21, .inl (b35, 50, .inl (fun _ => 0))), (q22, .inl (b36, 2, .inl (upd (fun _ => 0) (0 : Int32).toNatClampNeg (vp_nar .boolean 0))))]) [0, 1, 2, 3, 4, 5, 6, 7, 8, 9, 10, 11, 12, 13] (by decide) rfl
      have hKc := hK.sub (tys' := [(b24, .byte), (b25, .int), (b26, .int), (b27, .int), (b28, .int), (b29, .int), (b30, .int), (b31, .int), (b32, .int), (b33, .int), (b34, .int), (b35, .int), (b36, .boolean)]) [0, 1, 2, 3, 4, 5, 6, 7, 8, 9, 10, 11, 12] rfl
      have hFc := va_free (wc := [(q7, .inr (8, fs37)), (q10, .inl (b24, 4000, .inl (fun _ => 0))), (q11, .inl (b25, 1203, .inl (fun _ => 0))), (q12, .inl (b26, 1203, .inl (fun _ => 0))), (q13, .inl (b27, 1203, .inl (fun _ => 0))), (q14, .inl (b28, 2, .inl (fun _ => 0))), (q15, .inl (b29, 2, .inl (fun _ => 0))), (q16, .inl (b30, 2, .inl (fun _ => 0))), (q17, .inl (b31, 2, .inl (fun _ => 0))), (q18, .inl (b32, 2, .inl (fun _ => 0))), (q19, .inl (b33, 2, .inl (fun _ => 0))), (q20, .inl (b34, 2, .inl (fun _ => 0))), (q21, .inl (b35, 50, .inl (fun _ => 0))), (q22, .inl (b36, 2, .inl (upd (fun _ => 0) (0 : Int32).toNatClampNeg (vp_nar .boolean 0))))]) hD hS hA [0, 1, 2, 3, 4, 5, 6, 7, 8, 9, 10, 11, 12, 13] rfl
      refine va_calli (va_runV (As := [.int 1, .int (xs 2)]) (rest := [.int 0]) ⟨hx, hb, hml, hown, hw⟩ (tX12_memory_n2 l dC dI q7 q10 q11 q12 q13 q14 q15 q16 q17 q18 q19 q20 q21 q22 q23 H.size b24 b25 b26 b27 b28 b29 b30 b31 b32 b33 b34 b35 b36 (xs 2) fs37 hF) ⟨callB_of 2 hw (gd mP_567) rfl rfl rfl (hw _ mP_40) (hw _ mP_568) hdX12_memory ⟨Nat.le_of_ble_eq_true rfl, Nat.le_of_ble_eq_true rfl⟩, (hw _ mP_569), (hw _ mP_570)⟩ ⟨fbz, va_recv hKc hPc (ci := 8) (q0 := 0) rfl rfl, prz hPc hKc hDc⟩ rfl rfl hl.1 rfl (lv_room (Nat.le_of_ble_eq_true rfl)) dL_law_805 ⟨Nat.le_of_ble_eq_true rfl, Nat.le_of_ble_eq_true rfl⟩) hS (fun q _ h => hFc q h) hFc (fun r9 u9 t H1 locs ht hvm hpo hB hz1 hk1 hS => ?_)
      have hP1 : va_P (dC, dI) vC [] H1 := va_nilP
      have hD1 : va_D (va_A [(q7, .inr (8, fs37)), (q10, .inl (b24, 4000, .inl (fun _ => 0))), (q11, .inl (b25, 1203, .inl (fun _ => 0))), (q12, .inl (b26, 1203, .inl (fun _ => 0))), (q13, .inl (b27, 1203, .inl (fun _ => 0))), (q14, .inl (b28, 2, .inl (fun _ => 0))), (q15, .inl (b29, 2, .inl (fun _ => 0))), (q16, .inl (b30, 2, .inl (fun _ => 0))), (q17, .inl (b31, 2, .inl (fun _ => 0))), (q18, .inl (b32, 2, .inl (fun _ => 0))), (q19, .inl (b33, 2, .inl (fun _ => 0))), (q20, .inl (b34, 2, .inl (fun _ => 0))), (q21, .inl (b35, 50, .inl (fun _ => 0))), (q22, .inl (b36, 2, .inl (upd (fun _ => 0) (0 : Int32).toNatClampNeg (vp_nar .boolean 0))))] H.size) [] := va_nilD
      obtain ⟨hP, hD⟩ := va_join (wr := []) (w1 := []) hP hD [0, 1, 2, 3, 4, 5, 6, 7, 8, 9, 10, 11, 12, 13] [] rfl rfl (by decide) (by decide) hk1 hFc hP1 hD1
      have hK := hK.sub (tys' := []) [] rfl
      generalize H1 = H at hP hS ⊢
      have hP : va_P (dC, dI) vC [] H := hP
      have hD : va_D (fun q : Nat => s.heap.size ≤ q) [] := hD
      have hK : va_K (dC, dI) vC [] s := hK
      have hpo : r9 = 0 := hpo
      subst hpo
      refine lv_icmp_eq (tgt := 836) hx hb dL_law_808 (by decide) (fun _ => ?_) (fun c => absurd (by decide +kernel) c)
      exact law_end hx hb hr hml hown hw hSc hbl hlocks (Nat.le_of_ble_eq_true rfl) (Nat.le_of_ble_eq_true rfl) hS (lv_sub hl [3, 0] rfl)
set_option maxHeartbeats 4000000 in
set_option maxRecDepth 100000 in
theorem law_21 {p : Program} {l : Launch} {e : Env} {s : State} {m : MethodId} {below : List Frame} {meth : Method} {c : Code} {b : Nat} {xs : Nat → Int32} {dC : Nat → ClassId} {dI : Nat → Nat → Nat} {q1 q3 q4 q7 q10 q11 q12 q13 q14 q15 q16 q17 q18 q19 q20 q21 q22 q23 : Nat} {b5 b6 b24 b25 b26 b27 b28 b29 b30 b31 b32 b33 b34 b35 b36 : ClassId} {kK kV : Nat} {fs37 : List Value} (hx : p.tables.exec = Jvm.exec) (hb : c.code = code) (hr : meth.sig.returnType = ret) (hml : c.maxLocals = 4) (hown : s.vm.findClass RL = some m.cls) (hw : ∀ w ∈ wP, w.before #[Value.ref b] s = true) (hSc : va_X b 6 xs s s.heap) (hbl : b < s.heap.size) (hlocks : meth.locks = false) (hX : Xt kK kV (fun q : Nat => s.heap.size ≤ q) s s.heap) (hF : MF fs37 [.ref q23, .ref q10, .int 0, .int 0, .ref q11, .ref q12, .ref q13, .int 0, .int 0, .int 0, .int (-1), .int (-1), .ref q14, .ref q15, .ref q16, .ref q17, .ref q18, .ref q19, .ref q20, .int 0, .int 0, .int 0, .int 0, .ref q22, .ref q21, .int 0]) (hK : va_K (dC, dI) vC [(b5, .byte), (b6, .int), (b24, .byte), (b25, .int), (b26, .int), (b27, .int), (b28, .int), (b29, .int), (b30, .int), (b31, .int), (b32, .int), (b33, .int), (b34, .int), (b35, .int), (b36, .boolean)] s) {H : Heap} {locs : List Loc} {ls : Array Slot} (hP : va_P (dC, dI) vC [(q1, .inr (7, [.ref q3, .int 0, .ref q4, .int 0, .int (-1), .null, .null, .null, .null, .null, .null, .null, .null, .null, .null])), (q3, .inl (b5, 4000, .inl (fun _ => 0))), (q4, .inl (b6, 50, .inl (fun _ => 0))), (q7, .inr (8, fs37)), (q10, .inl (b24, 4000, .inl (fun _ => 0))), (q11, .inl (b25, 1203, .inl (fun _ => 0))), (q12, .inl (b26, 1203, .inl (fun _ => 0))), (q13, .inl (b27, 1203, .inl (fun _ => 0))), (q14, .inl (b28, 2, .inl (fun _ => 0))), (q15, .inl (b29, 2, .inl (fun _ => 0))), (q16, .inl (b30, 2, .inl (fun _ => 0))), (q17, .inl (b31, 2, .inl (fun _ => 0))), (q18, .inl (b32, 2, .inl (fun _ => 0))), (q19, .inl (b33, 2, .inl (fun _ => 0))), (q20, .inl (b34, 2, .inl (fun _ => 0))), (q21, .inl (b35, 50, .inl (fun _ => 0))), (q22, .inl (b36, 2, .inl (upd (fun _ => 0) (0 : Int32).toNatClampNeg (vp_nar .boolean 0))))] H) (hD : va_D (fun q : Nat => s.heap.size ≤ q) [(q1, .inr (7, [.ref q3, .int 0, .ref q4, .int 0, .int (-1), .null, .null, .null, .null, .null, .null, .null, .null, .null, .null])), (q3, .inl (b5, 4000, .inl (fun _ => 0))), (q4, .inl (b6, 50, .inl (fun _ => 0))), (q7, .inr (8, fs37)), (q10, .inl (b24, 4000, .inl (fun _ => 0))), (q11, .inl (b25, 1203, .inl (fun _ => 0))), (q12, .inl (b26, 1203, .inl (fun _ => 0))), (q13, .inl (b27, 1203, .inl (fun _ => 0))), (q14, .inl (b28, 2, .inl (fun _ => 0))), (q15, .inl (b29, 2, .inl (fun _ => 0))), (q16, .inl (b30, 2, .inl (fun _ => 0))), (q17, .inl (b31, 2, .inl (fun _ => 0))), (q18, .inl (b32, 2, .inl (fun _ => 0))), (q19, .inl (b33, 2, .inl (fun _ => 0))), (q20, .inl (b34, 2, .inl (fun _ => 0))), (q21, .inl (b35, 50, .inl (fun _ => 0))), (q22, .inl (b36, 2, .inl (upd (fun _ => 0) (0 : Int32).toNatClampNeg (vp_nar .boolean 0))))]) (hS : va_S (fun q : Nat => s.heap.size ≤ q) s.heap H locs) (hl : lv_has ls 4 [(3, .int 0), (2, .ref q7), (1, .ref q1), (0, .ref b)]) : W p l e room_1 s m #[Value.ref b] below meth c H locs 90 643148 (lw_Z below #[Value.ref b] s) (F0 m 813 ls []) := by
  have hA : ∀ q : Nat, s.heap.size ≤ q → (fun q : Nat => s.heap.size ≤ q) q := fun _ h => h
  have hbA : ¬ (fun q : Nat => s.heap.size ≤ q) b := Nat.not_le.mpr hbl
  refine lv_aload_n hx hb dL_law_813 rfl (lv_at hl 2 rfl) ?_
  refine lv_aload_n hx hb dL_law_814 rfl (lv_at hl 3 rfl) ?_
  refine lv_iload_n hx hb dL_law_815 rfl (lv_at hl 0 rfl) ?_
  refine lv_iconst (v := 1) hx hb dL_law_816 (by decide) ?_
  refine lv_iadd hx hb dL_law_817 ?_
  refine lv_nmi (y := 1) (by decide +kernel) ?_
  refine va_sld hx hb hSc hbl hbA hS (vin (by decide +kernel)) dL_law_818 ?_
  refine lv_nmi (y := xs 1) (congrArg xs (by decide +kernel)) ?_
  have hPc := hP.sub (ws' := [(q1, .inr (7, [.ref q3, .int 0, .ref q4, .int 0, .int (-1), .null, .null, .null, .null, .null, .null, .null, .null, .null, .null])), (q3, .inl (b5, 4000, .inl (fun _ => 0))), (q4, .inl (b6, 50, .inl (fun _ => 0)))]) [0, 1, 2] rfl
  have hDc := hD.sub (ws' := [(q1, .inr (7, [.ref q3, .int 0, .ref q4, .int 0, .int (-1), .null, .null, .null, .null, .null, .null, .null, .null, .null, .null])), (q3, .inl (b5, 4000, .inl (fun _ => 0))), (q4, .inl (b6, 50, .inl (fun _ => 0)))]) [0, 1, 2] (by decide) rfl
  have hKc := hK.sub (tys' := [(b5, .byte), (b6, .int)]) [0, 1] rfl
  have hFc := va_free (wc := [(q1, .inr (7, [.ref q3, .int 0, .ref q4, .int 0, .int (-1), .null, .null, .null, .null, .null, .null, .null, .null, .null, .null])), (q3, .inl (b5, 4000, .inl (fun _ => 0))), (q4, .inl (b6, 50, .inl (fun _ => 0)))]) hD hS hA [0, 1, 2] rfl
  refine va_calli (va_runV (As := [.int (xs 1)]) (rest := []) ⟨hx, hb, hml, hown, hw⟩ (tX11_count_n1 l dC dI q1 q3 q4 H.size b5 b6 (xs 1)) ⟨callB_of 1 hw (gd mP_575) rfl rfl rfl (hw _ mP_26) (hw _ mP_576) hdX11_count ⟨Nat.le_of_ble_eq_true rfl, Nat.le_of_ble_eq_true rfl⟩, (hw _ mP_577), (hw _ mP_578)⟩ ⟨fbz, va_recv hKc hPc (ci := 7) (q0 := 0) rfl rfl, prz hPc hKc hDc⟩ rfl rfl hl.1 rfl (lv_room (Nat.le_of_ble_eq_true rfl)) dL_law_819 ⟨Nat.le_of_ble_eq_true rfl, Nat.le_of_ble_eq_true rfl⟩) hS (fun q _ h => hFc q h) hFc (fun r1 u1 t H1 locs ht hvm hpo hB hz1 hk1 hS => ?_)
  have hP1 : va_P (dC, dI) vC [] H1 := va_nilP
  have hD1 : va_D (va_A [(q1, .inr (7, [.ref q3, .int 0, .ref q4, .int 0, .int (-1), .null, .null, .null, .null, .null, .null, .null, .null, .null, .null])), (q3, .inl (b5, 4000, .inl (fun _ => 0))), (q4, .inl (b6, 50, .inl (fun _ => 0)))] H.size) [] := va_nilD
  obtain ⟨hP, hD⟩ := va_join (wr := [(q7, .inr (8, fs37)), (q10, .inl (b24, 4000, .inl (fun _ => 0))), (q11, .inl (b25, 1203, .inl (fun _ => 0))), (q12, .inl (b26, 1203, .inl (fun _ => 0))), (q13, .inl (b27, 1203, .inl (fun _ => 0))), (q14, .inl (b28, 2, .inl (fun _ => 0))), (q15, .inl (b29, 2, .inl (fun _ => 0))), (q16, .inl (b30, 2, .inl (fun _ => 0))), (q17, .inl (b31, 2, .inl (fun _ => 0))), (q18, .inl (b32, 2, .inl (fun _ => 0))), (q19, .inl (b33, 2, .inl (fun _ => 0))), (q20, .inl (b34, 2, .inl (fun _ => 0))), (q21, .inl (b35, 50, .inl (fun _ => 0))), (q22, .inl (b36, 2, .inl (upd (fun _ => 0) (0 : Int32).toNatClampNeg (vp_nar .boolean 0))))]) (w1 := []) hP hD [0, 1, 2] [3, 4, 5, 6, 7, 8, 9, 10, 11, 12, 13, 14, 15, 16] rfl rfl (by decide) (by decide) hk1 hFc hP1 hD1
  have hK := hK.sub (tys' := [(b24, .byte), (b25, .int), (b26, .int), (b27, .int), (b28, .int), (b29, .int), (b30, .int), (b31, .int), (b32, .int), (b33, .int), (b34, .int), (b35, .int), (b36, .boolean)]) [2, 3, 4, 5, 6, 7, 8, 9, 10, 11, 12, 13, 14] rfl
  generalize H1 = H at hP hS ⊢
  have hP : va_P (dC, dI) vC [(q7, .inr (8, fs37)), (q10, .inl (b24, 4000, .inl (fun _ => 0))), (q11, .inl (b25, 1203, .inl (fun _ => 0))), (q12, .inl (b26, 1203, .inl (fun _ => 0))), (q13, .inl (b27, 1203, .inl (fun _ => 0))), (q14, .inl (b28, 2, .inl (fun _ => 0))), (q15, .inl (b29, 2, .inl (fun _ => 0))), (q16, .inl (b30, 2, .inl (fun _ => 0))), (q17, .inl (b31, 2, .inl (fun _ => 0))), (q18, .inl (b32, 2, .inl (fun _ => 0))), (q19, .inl (b33, 2, .inl (fun _ => 0))), (q20, .inl (b34, 2, .inl (fun _ => 0))), (q21, .inl (b35, 50, .inl (fun _ => 0))), (q22, .inl (b36, 2, .inl (upd (fun _ => 0) (0 : Int32).toNatClampNeg (vp_nar .boolean 0))))] H := hP
  have hD : va_D (fun q : Nat => s.heap.size ≤ q) [(q7, .inr (8, fs37)), (q10, .inl (b24, 4000, .inl (fun _ => 0))), (q11, .inl (b25, 1203, .inl (fun _ => 0))), (q12, .inl (b26, 1203, .inl (fun _ => 0))), (q13, .inl (b27, 1203, .inl (fun _ => 0))), (q14, .inl (b28, 2, .inl (fun _ => 0))), (q15, .inl (b29, 2, .inl (fun _ => 0))), (q16, .inl (b30, 2, .inl (fun _ => 0))), (q17, .inl (b31, 2, .inl (fun _ => 0))), (q18, .inl (b32, 2, .inl (fun _ => 0))), (q19, .inl (b33, 2, .inl (fun _ => 0))), (q20, .inl (b34, 2, .inl (fun _ => 0))), (q21, .inl (b35, 50, .inl (fun _ => 0))), (q22, .inl (b36, 2, .inl (upd (fun _ => 0) (0 : Int32).toNatClampNeg (vp_nar .boolean 0))))] := hD
  have hK : va_K (dC, dI) vC [(b24, .byte), (b25, .int), (b26, .int), (b27, .int), (b28, .int), (b29, .int), (b30, .int), (b31, .int), (b32, .int), (b33, .int), (b34, .int), (b35, .int), (b36, .boolean)] s := hK
  have ho1 : r1 = fCount (xs 1) := hpo
  refine lv_aload_n hx hb dL_law_822 rfl (lv_at hl 1 rfl) ?_
  refine lv_aload_n hx hb dL_law_823 rfl (lv_at hl 3 rfl) ?_
  refine lv_iload_n hx hb dL_law_824 rfl (lv_at hl 0 rfl) ?_
  refine lv_iconst (v := 1) hx hb dL_law_825 (by decide) ?_
  refine lv_iadd hx hb dL_law_826 ?_
  refine lv_nmi (y := 1) (by decide +kernel) ?_
  refine va_sld hx hb hSc hbl hbA hS (vin (by decide +kernel)) dL_law_827 ?_
  refine lv_nmi (y := xs 1) (congrArg xs (by decide +kernel)) ?_
  have hPc := hP.sub (ws' := [(q7, .inr (8, fs37)), (q10, .inl (b24, 4000, .inl (fun _ => 0))), (q11, .inl (b25, 1203, .inl (fun _ => 0))), (q12, .inl (b26, 1203, .inl (fun _ => 0))), (q13, .inl (b27, 1203, .inl (fun _ => 0))), (q14, .inl (b28, 2, .inl (fun _ => 0))), (q15, .inl (b29, 2, .inl (fun _ => 0))), (q16, .inl (b30, 2, .inl (fun _ => 0))), (q17, .inl (b31, 2, .inl (fun _ => 0))), (q18, .inl (b32, 2, .inl (fun _ => 0))), (q19, .inl (b33, 2, .inl (fun _ => 0))), (q20, .inl (b34, 2, .inl (fun _ => 0))), (q21, .inl (b35, 50, .inl (fun _ => 0))), (q22, .inl (b36, 2, .inl (upd (fun _ => 0) (0 : Int32).toNatClampNeg (vp_nar .boolean 0))))]) [0, 1, 2, 3, 4, 5, 6, 7, 8, 9, 10, 11, 12, 13] rfl
  have hDc := hD.sub (ws' := [(q7, .inr (8, fs37)), (q10, .inl (b24, 4000, .inl (fun _ => 0))), (q11, .inl (b25, 1203, .inl (fun _ => 0))), (q12, .inl (b26, 1203, .inl (fun _ => 0))), (q13, .inl (b27, 1203, .inl (fun _ => 0))), (q14, .inl (b28, 2, .inl (fun _ => 0))), (q15, .inl (b29, 2, .inl (fun _ => 0))), (q16, .inl (b30, 2, .inl (fun _ => 0))), (q17, .inl (b31, 2, .inl (fun _ => 0))), (q18, .inl (b32, 2, .inl (fun _ => 0))), (q19, .inl (b33, 2, .inl (fun _ => 0))), (q20, .inl (b34, 2, .inl (fun _ => 0))), (q21, .inl (b35, 50, .inl (fun _ => 0))), (q22, .inl (b36, 2, .inl (upd (fun _ => 0) (0 : Int32).toNatClampNeg (vp_nar .boolean 0))))]) [0, 1, 2, 3, 4, 5, 6, 7, 8, 9, 10, 11, 12, 13] (by decide) rfl
  have hKc := hK.sub (tys' := [(b24, .byte), (b25, .int), (b26, .int), (b27, .int), (b28, .int), (b29, .int), (b30, .int), (b31, .int), (b32, .int), (b33, .int), (b34, .int), (b35, .int), (b36, .boolean)]) [0, 1, 2, 3, 4, 5, 6, 7, 8, 9, 10, 11, 12] rfl
  have hFc := va_free (wc := [(q7, .inr (8, fs37)), (q10, .inl (b24, 4000, .inl (fun _ => 0))), (q11, .inl (b25, 1203, .inl (fun _ => 0))), (q12, .inl (b26, 1203, .inl (fun _ => 0))), (q13, .inl (b27, 1203, .inl (fun _ => 0))), (q14, .inl (b28, 2, .inl (fun _ => 0))), (q15, .inl (b29, 2, .inl (fun _ => 0))), (q16, .inl (b30, 2, .inl (fun _ => 0))), (q17, .inl (b31, 2, .inl (fun _ => 0))), (q18, .inl (b32, 2, .inl (fun _ => 0))), (q19, .inl (b33, 2, .inl (fun _ => 0))), (q20, .inl (b34, 2, .inl (fun _ => 0))), (q21, .inl (b35, 50, .inl (fun _ => 0))), (q22, .inl (b36, 2, .inl (upd (fun _ => 0) (0 : Int32).toNatClampNeg (vp_nar .boolean 0))))]) hD hS hA [0, 1, 2, 3, 4, 5, 6, 7, 8, 9, 10, 11, 12, 13] rfl
  refine va_calli (va_runV (As := [.int (xs 1)]) (rest := [.int r1]) ⟨hx, hb, hml, hown, hw⟩ (tX12_count_n1 l dC dI q7 q10 q11 q12 q13 q14 q15 q16 q17 q18 q19 q20 q21 q22 q23 H.size b24 b25 b26 b27 b28 b29 b30 b31 b32 b33 b34 b35 b36 (xs 1) fs37 hF) ⟨callB_of 1 hw (gd mP_579) rfl rfl rfl (hw _ mP_40) (hw _ mP_580) hdX12_count ⟨Nat.le_of_ble_eq_true rfl, Nat.le_of_ble_eq_true rfl⟩, (hw _ mP_581), (hw _ mP_582)⟩ ⟨fbz, va_recv hKc hPc (ci := 8) (q0 := 0) rfl rfl, prz hPc hKc hDc⟩ rfl rfl hl.1 rfl (lv_room (Nat.le_of_ble_eq_true rfl)) dL_law_828 ⟨Nat.le_of_ble_eq_true rfl, Nat.le_of_ble_eq_true rfl⟩) hS (fun q _ h => hFc q h) hFc (fun r2 u2 t H1 locs ht hvm hpo hB hz1 hk1 hS => ?_)
  have hP1 : va_P (dC, dI) vC [] H1 := va_nilP
  have hD1 : va_D (va_A [(q7, .inr (8, fs37)), (q10, .inl (b24, 4000, .inl (fun _ => 0))), (q11, .inl (b25, 1203, .inl (fun _ => 0))), (q12, .inl (b26, 1203, .inl (fun _ => 0))), (q13, .inl (b27, 1203, .inl (fun _ => 0))), (q14, .inl (b28, 2, .inl (fun _ => 0))), (q15, .inl (b29, 2, .inl (fun _ => 0))), (q16, .inl (b30, 2, .inl (fun _ => 0))), (q17, .inl (b31, 2, .inl (fun _ => 0))), (q18, .inl (b32, 2, .inl (fun _ => 0))), (q19, .inl (b33, 2, .inl (fun _ => 0))), (q20, .inl (b34, 2, .inl (fun _ => 0))), (q21, .inl (b35, 50, .inl (fun _ => 0))), (q22, .inl (b36, 2, .inl (upd (fun _ => 0) (0 : Int32).toNatClampNeg (vp_nar .boolean 0))))] H.size) [] := va_nilD
  obtain ⟨hP, hD⟩ := va_join (wr := []) (w1 := []) hP hD [0, 1, 2, 3, 4, 5, 6, 7, 8, 9, 10, 11, 12, 13] [] rfl rfl (by decide) (by decide) hk1 hFc hP1 hD1
  have hK := hK.sub (tys' := []) [] rfl
  generalize H1 = H at hP hS ⊢
  have hP : va_P (dC, dI) vC [] H := hP
  have hD : va_D (fun q : Nat => s.heap.size ≤ q) [] := hD
  have hK : va_K (dC, dI) vC [] s := hK
  have ho2 : r2 = fCount (xs 1) := hpo
  refine lv_icmp_eq (tgt := 836) hx hb dL_law_831 (by decide) (fun _ => ?_) (fun c => absurd (ho1.trans ho2.symm) c)
  exact law_end hx hb hr hml hown hw hSc hbl hlocks (Nat.le_of_ble_eq_true rfl) (Nat.le_of_ble_eq_true rfl) hS (lv_sub hl [3, 0] rfl)
set_option maxHeartbeats 4000000 in
set_option maxRecDepth 100000 in
theorem law_head {p : Program} {l : Launch} {e : Env} {s : State} {m : MethodId} {below : List Frame} {meth : Method} {c : Code} {b : Nat} {xs : Nat → Int32} {L : Nat} {dC : Nat → ClassId} {dI : Nat → Nat → Nat} {q1 q3 q4 q7 q10 q11 q12 q13 q14 q15 q16 q17 q18 q19 q20 q21 q22 q23 : Nat} {b5 b6 b24 b25 b26 b27 b28 b29 b30 b31 b32 b33 b34 b35 b36 : ClassId} {kK kV : Nat} {fs37 : List Value} (hx : p.tables.exec = Jvm.exec) (hb : c.code = code) (hr : meth.sig.returnType = ret) (hml : c.maxLocals = 4) (hown : s.vm.findClass RL = some m.cls) (hw : ∀ w ∈ wP, w.before #[Value.ref b] s = true) (hSc : va_X b L xs s s.heap) (hbl : b < s.heap.size) (hlocks : meth.locks = false) (hL : L ≤ 6) (hX : Xt kK kV (fun q : Nat => s.heap.size ≤ q) s s.heap) (hF : MF fs37 [.ref q23, .ref q10, .int 0, .int 0, .ref q11, .ref q12, .ref q13, .int 0, .int 0, .int 0, .int (-1), .int (-1), .ref q14, .ref q15, .ref q16, .ref q17, .ref q18, .ref q19, .ref q20, .int 0, .int 0, .int 0, .int 0, .ref q22, .ref q21, .int 0]) (hK : va_K (dC, dI) vC [(b5, .byte), (b6, .int), (b24, .byte), (b25, .int), (b26, .int), (b27, .int), (b28, .int), (b29, .int), (b30, .int), (b31, .int), (b32, .int), (b33, .int), (b34, .int), (b35, .int), (b36, .boolean)] s) {H : Heap} {locs : List Loc} {ls : Array Slot} (hP : va_P (dC, dI) vC [(q1, .inr (7, [.ref q3, .int 0, .ref q4, .int 0, .int (-1), .null, .null, .null, .null, .null, .null, .null, .null, .null, .null])), (q3, .inl (b5, 4000, .inl (fun _ => 0))), (q4, .inl (b6, 50, .inl (fun _ => 0))), (q7, .inr (8, fs37)), (q10, .inl (b24, 4000, .inl (fun _ => 0))), (q11, .inl (b25, 1203, .inl (fun _ => 0))), (q12, .inl (b26, 1203, .inl (fun _ => 0))), (q13, .inl (b27, 1203, .inl (fun _ => 0))), (q14, .inl (b28, 2, .inl (fun _ => 0))), (q15, .inl (b29, 2, .inl (fun _ => 0))), (q16, .inl (b30, 2, .inl (fun _ => 0))), (q17, .inl (b31, 2, .inl (fun _ => 0))), (q18, .inl (b32, 2, .inl (fun _ => 0))), (q19, .inl (b33, 2, .inl (fun _ => 0))), (q20, .inl (b34, 2, .inl (fun _ => 0))), (q21, .inl (b35, 50, .inl (fun _ => 0))), (q22, .inl (b36, 2, .inl (upd (fun _ => 0) (0 : Int32).toNatClampNeg (vp_nar .boolean 0))))] H) (hD : va_D (fun q : Nat => s.heap.size ≤ q) [(q1, .inr (7, [.ref q3, .int 0, .ref q4, .int 0, .int (-1), .null, .null, .null, .null, .null, .null, .null, .null, .null, .null])), (q3, .inl (b5, 4000, .inl (fun _ => 0))), (q4, .inl (b6, 50, .inl (fun _ => 0))), (q7, .inr (8, fs37)), (q10, .inl (b24, 4000, .inl (fun _ => 0))), (q11, .inl (b25, 1203, .inl (fun _ => 0))), (q12, .inl (b26, 1203, .inl (fun _ => 0))), (q13, .inl (b27, 1203, .inl (fun _ => 0))), (q14, .inl (b28, 2, .inl (fun _ => 0))), (q15, .inl (b29, 2, .inl (fun _ => 0))), (q16, .inl (b30, 2, .inl (fun _ => 0))), (q17, .inl (b31, 2, .inl (fun _ => 0))), (q18, .inl (b32, 2, .inl (fun _ => 0))), (q19, .inl (b33, 2, .inl (fun _ => 0))), (q20, .inl (b34, 2, .inl (fun _ => 0))), (q21, .inl (b35, 50, .inl (fun _ => 0))), (q22, .inl (b36, 2, .inl (upd (fun _ => 0) (0 : Int32).toNatClampNeg (vp_nar .boolean 0))))]) (hS : va_S (fun q : Nat => s.heap.size ≤ q) s.heap H locs) (hl : lv_has ls 4 [(3, .int 0), (2, .ref q7), (1, .ref q1), (0, .ref b)]) : W p l e room_1 s m #[Value.ref b] below meth c H locs 90 643148 (lw_Z below #[Value.ref b] s) (F0 m 18 ls []) := by
  have hbA : ¬ (fun q : Nat => s.heap.size ≤ q) b := Nat.not_le.mpr hbl
  refine lv_iload_n hx hb dL_law_18 rfl (lv_at hl 0 rfl) ?_
  refine lv_aload_n hx hb dL_law_19 rfl (lv_at hl 3 rfl) ?_
  refine va_slen hx hb hSc hbl hbA hS dL_law_20 ?_
  refine lv_bipush (v := 6) hx hb dL_law_21 (by decide) ?_
  refine lv_isub hx hb dL_law_23 ?_
  refine lv_icmp_gt (tgt := 842) hx hb dL_law_24 (by decide) (fun _ => ?_) (fun hge => ?_)
  · refine lv_iconst (v := 1) hx hb dL_law_842 (by decide) ?_
    refine va_forget (fun q hq => hS.2.2 q hq) ?_
    refine W.widen (k := 600000) (n := 7302250) (Nat.le_of_ble_eq_true rfl) (Nat.le_of_ble_eq_true rfl) ?_
    exact lw_ret hx hb hr hlocks dL_law_843
  have hL6 : L = 6 := len6 hL hge
  subst hL6
  refine lv_aload_n hx hb dL_law_27 rfl (lv_at hl 3 rfl) ?_
  refine lv_iload_n hx hb dL_law_28 rfl (lv_at hl 0 rfl) ?_
  refine va_sld hx hb hSc hbl hbA hS (vin (by decide +kernel)) dL_law_29 ?_
  refine lv_bipush (v := 31) hx hb dL_law_30 (by decide) ?_
  refine lv_iand hx hb dL_law_32 ?_
  refine lv_topi (fun z ez => ?_)
  rcases sw22 z with hz | rfl | rfl | rfl | rfl | rfl | rfl | rfl | rfl | rfl | rfl | rfl | rfl | rfl | rfl | rfl | rfl | rfl | rfl | rfl | rfl | rfl | rfl
  · refine lv_tableOut (tgt := 836) hx hb dL_law_33 hz (by decide) ?_
    exact law_end hx hb hr hml hown hw hSc hbl hlocks (Nat.le_of_ble_eq_true rfl) (Nat.le_of_ble_eq_true rfl) hS (lv_sub hl [3, 0] rfl)
  · refine lv_tableIn (tgt := 136) hx hb dL_law_33 (by decide +kernel) (by decide +kernel) rfl (by decide) ?_
    exact law_0 hx hb hr hml hown hw hSc hbl hlocks hX hF hK hP hD hS hl
  · refine lv_tableIn (tgt := 199) hx hb dL_law_33 (by decide +kernel) (by decide +kernel) rfl (by decide) ?_
    exact law_1 hx hb hr hml hown hw hSc hbl hlocks hX hF hK hP hD hS hl
  · refine lv_tableIn (tgt := 222) hx hb dL_law_33 (by decide +kernel) (by decide +kernel) rfl (by decide) ?_
    exact law_2 hx hb hr hml hown hw hSc hbl hlocks hX hF hK hP hD hS hl
  · refine lv_tableIn (tgt := 235) hx hb dL_law_33 (by decide +kernel) (by decide +kernel) rfl (by decide) ?_
    exact law_3 hx hb hr hml hown hw hSc hbl hlocks hX hF hK hP hD hS hl
  · refine lv_tableIn (tgt := 248) hx hb dL_law_33 (by decide +kernel) (by decide +kernel) rfl (by decide) ?_
    exact law_4 hx hb hr hml hown hw hSc hbl hlocks hX hF hK hP hD hS hl
  · refine lv_tableIn (tgt := 281) hx hb dL_law_33 (by decide +kernel) (by decide +kernel) rfl (by decide) ?_
    exact law_5 hx hb hr hml hown hw hSc hbl hlocks hX hF hK hP hD hS hl
  · refine lv_tableIn (tgt := 314) hx hb dL_law_33 (by decide +kernel) (by decide +kernel) rfl (by decide) ?_
    exact law_6 hx hb hr hml hown hw hSc hbl hlocks hX hF hK hP hD hS hl
  · refine lv_tableIn (tgt := 357) hx hb dL_law_33 (by decide +kernel) (by decide +kernel) rfl (by decide) ?_
    exact law_7 hx hb hr hml hown hw hSc hbl hlocks hX hF hK hP hD hS hl
  · refine lv_tableIn (tgt := 400) hx hb dL_law_33 (by decide +kernel) (by decide +kernel) rfl (by decide) ?_
    exact law_8 hx hb hr hml hown hw hSc hbl hlocks hX hF hK hP hD hS hl
  · refine lv_tableIn (tgt := 433) hx hb dL_law_33 (by decide +kernel) (by decide +kernel) rfl (by decide) ?_
    exact law_9 hx hb hr hml hown hw hSc hbl hlocks hX hF hK hP hD hS hl
  · refine lv_tableIn (tgt := 456) hx hb dL_law_33 (by decide +kernel) (by decide +kernel) rfl (by decide) ?_
    exact law_10 hx hb hr hml hown hw hSc hbl hlocks hX hF hK hP hD hS hl
  · refine lv_tableIn (tgt := 489) hx hb dL_law_33 (by decide +kernel) (by decide +kernel) rfl (by decide) ?_
    exact law_11 hx hb hr hml hown hw hSc hbl hlocks hX hF hK hP hD hS hl
  · refine lv_tableIn (tgt := 512) hx hb dL_law_33 (by decide +kernel) (by decide +kernel) rfl (by decide) ?_
    exact law_12 hx hb hr hml hown hw hSc hbl hlocks hX hF hK hP hD hS hl
  · refine lv_tableIn (tgt := 535) hx hb dL_law_33 (by decide +kernel) (by decide +kernel) rfl (by decide) ?_
    exact law_13 hx hb hr hml hown hw hSc hbl hlocks hX hF hK hP hD hS hl
  · refine lv_tableIn (tgt := 548) hx hb dL_law_33 (by decide +kernel) (by decide +kernel) rfl (by decide) ?_
    exact law_14 hx hb hr hml hown hw hSc hbl hlocks hX hF hK hP hD hS hl
  · refine lv_tableIn (tgt := 581) hx hb dL_law_33 (by decide +kernel) (by decide +kernel) rfl (by decide) ?_
    exact law_15 hx hb hr hml hown hw hSc hbl hlocks hX hF hK hP hD hS hl
  · refine lv_tableIn (tgt := 604) hx hb dL_law_33 (by decide +kernel) (by decide +kernel) rfl (by decide) ?_
    exact law_16 hx hb hr hml hown hw hSc hbl hlocks hX hF hK hP hD hS hl
  · refine lv_tableIn (tgt := 617) hx hb dL_law_33 (by decide +kernel) (by decide +kernel) rfl (by decide) ?_
    exact law_17 hx hb hr hml hown hw hSc hbl hlocks hX hF hK hP hD hS hl
  · refine lv_tableIn (tgt := 666) hx hb dL_law_33 (by decide +kernel) (by decide +kernel) rfl (by decide) ?_
    exact law_18 hx hb hr hml hown hw hSc hbl hlocks hX hF hK hP hD hS hl
  · refine lv_tableIn (tgt := 715) hx hb dL_law_33 (by decide +kernel) (by decide +kernel) rfl (by decide) ?_
    exact law_19 hx hb hr hml hown hw hSc hbl hlocks hX hF hK hP hD hS hl
  · refine lv_tableIn (tgt := 764) hx hb dL_law_33 (by decide +kernel) (by decide +kernel) rfl (by decide) ?_
    exact law_20 hx hb hr hml hown hw hSc hbl hlocks hX hF hK hP hD hS hl
  · refine lv_tableIn (tgt := 813) hx hb dL_law_33 (by decide +kernel) (by decide +kernel) rfl (by decide) ?_
    exact law_21 hx hb hr hml hown hw hSc hbl hlocks hX hF hK hP hD hS hl
