set_option maxHeartbeats 4000000 in
set_option maxRecDepth 100000 in
theorem tx_loop {p : Program} {l : Launch} {e : Env} {R : Room} {s : State} {m : MethodId} {args : Array Value} {below : List Frame} {meth : Method} {c : Code} {cells slots : Nat} {Q : State → Prop} {dC : Nat → ClassId} {dI : Nat → Nat → Nat} {A : Nat → Prop} {h0 q1 q3 q5 q7 : Nat} {b4 b6 b8 : ClassId} {kK kV : Nat} (hx : p.tables.exec = Jvm.exec) (hb : c.code = cX10_init) (hml : c.maxLocals = 6) (hown : s.vm.findClass RX10 = some m.cls) (hw : ∀ w ∈ wP, w.before args s = true) (hX : Xt kK kV A s s.heap) (hA : ∀ q : Nat, s.heap.size ≤ q → A q) (hK : va_K (dC, dI) vC [(b4, .int), (b6, .long), (b8, .long)] s) (hRf : 4 ≤ R.frames) (hRl : 85 ≤ R.locals) (hRc : cells ≤ R.cells) (hRs : slots ≤ R.slots) (kk : ∀ (fw : Nat → Int64) (H : Heap) (locs : List Loc) (ls : Array Slot), va_P (dC, dI) vC [(h0, .inr (6, [.ref q1, .ref q5, .ref q7, .null, .int 0, .int 0, .int (-1)])), (q1, .inr (5, [.int 5, .int 1201, .ref q3, .int 0])), (q3, .inl (b4, 6005, .inl (fun _ => 0))), (q5, .inl (b6, 1201, .inr (.inl (fun _ => 0)))), (q7, .inl (b8, 24, .inr (.inl fw)))] H → va_D A [(h0, .inr (6, [.ref q1, .ref q5, .ref q7, .null, .int 0, .int 0, .int (-1)])), (q1, .inr (5, [.int 5, .int 1201, .ref q3, .int 0])), (q3, .inl (b4, 6005, .inl (fun _ => 0))), (q5, .inl (b6, 1201, .inr (.inl (fun _ => 0)))), (q7, .inl (b8, 24, .inr (.inl fw)))] → va_S A s.heap H locs → W p l e R s m args below meth c H locs cells slots Q (F0 m 119 ls [])) :
    ∀ (n i wd : Nat) (pk : Int64) (fw : Nat → Int64) (H : Heap) (locs : List Loc) (ls : Array Slot), i ≤ 91 → 91 ≤ i + n → wd ≤ 24 → va_P (dC, dI) vC [(h0, .inr (6, [.ref q1, .ref q5, .ref q7, .null, .int 0, .int 0, .int (-1)])), (q1, .inr (5, [.int 5, .int 1201, .ref q3, .int 0])), (q3, .inl (b4, 6005, .inl (fun _ => 0))), (q5, .inl (b6, 1201, .inr (.inl (fun _ => 0)))), (q7, .inl (b8, 24, .inr (.inl fw)))] H → va_D A [(h0, .inr (6, [.ref q1, .ref q5, .ref q7, .null, .int 0, .int 0, .int (-1)])), (q1, .inr (5, [.int 5, .int 1201, .ref q3, .int 0])), (q3, .inl (b4, 6005, .inl (fun _ => 0))), (q5, .inl (b6, 1201, .inr (.inl (fun _ => 0)))), (q7, .inl (b8, 24, .inr (.inl fw)))] → va_S A s.heap H locs → lv_has ls 6 [(4, .int (nI i)), (2, .long pk), (1, .int (nI wd)), (0, .ref h0)] → W p l e R s m args below meth c H locs cells slots Q (F0 m 48 ls []) := by
  intro n
  induction n with
  | zero =>
    intro i wd pk fw H locs ls hi hn hwd hP hD hS hl
    refine lv_iload hx hb dX10_init_48 (lv_at hl 0 rfl) ?_
    refine va_ldcS hx hb hown hX.rf dX10_init_50 ?_
    have hPc := hP.sub (ws' := []) [] rfl
    have hDc := hD.sub (ws' := []) [] (by decide) rfl
    have hKc := hK.sub (tys' := []) [] rfl
    have hFc := va_free (wc := []) hD hS hA [] rfl
    refine va_calli (va_runV (As := []) (rest := [.int (nI i)]) ⟨hx, hb, hml, hown, hw⟩ (tJ0_length_8abf5 l dC dI H.size kK kV) ⟨callB_of 0 hw (gd mP_188) rfl rfl rfl (hw _ mP_3) (hw _ mP_189) hdJ0_length_8abf5 ⟨Nat.le_trans (Nat.le_of_ble_eq_true rfl) hRf, Nat.le_trans (Nat.le_of_ble_eq_true rfl) hRl⟩, (hw _ mP_190), (hw _ mP_191)⟩ ⟨fbe, hX.rc hS, pre hPc hKc hDc hX hFc hS⟩ rfl rfl hl.1 rfl (lv_room (Nat.le_of_ble_eq_true rfl)) dX10_init_52 ⟨hRc, hRs⟩) hS (fun q _ h => hFc q h) hFc (fun r1 u1 t H1 locs ht hvm hpo hB hz1 hk1 hS => ?_)
    have hP1 : va_P (dC, dI) vC [] H1 := va_nilP
    have hD1 : va_D (va_A [] H.size) [] := va_nilD
    obtain ⟨hP, hD⟩ := va_join (wr := [(h0, .inr (6, [.ref q1, .ref q5, .ref q7, .null, .int 0, .int 0, .int (-1)])), (q1, .inr (5, [.int 5, .int 1201, .ref q3, .int 0])), (q3, .inl (b4, 6005, .inl (fun _ => 0))), (q5, .inl (b6, 1201, .inr (.inl (fun _ => 0)))), (q7, .inl (b8, 24, .inr (.inl fw)))]) (w1 := []) hP hD [] [0, 1, 2, 3, 4] rfl rfl (by decide) (by decide) hk1 hFc hP1 hD1
    have hK := hK.sub (tys' := [(b4, .int), (b6, .long), (b8, .long)]) [0, 1, 2] rfl
    generalize H1 = H at hP hS ⊢
    have hP : va_P (dC, dI) vC [(h0, .inr (6, [.ref q1, .ref q5, .ref q7, .null, .int 0, .int 0, .int (-1)])), (q1, .inr (5, [.int 5, .int 1201, .ref q3, .int 0])), (q3, .inl (b4, 6005, .inl (fun _ => 0))), (q5, .inl (b6, 1201, .inr (.inl (fun _ => 0)))), (q7, .inl (b8, 24, .inr (.inl fw)))] H := hP
    have hD : va_D A [(h0, .inr (6, [.ref q1, .ref q5, .ref q7, .null, .int 0, .int 0, .int (-1)])), (q1, .inr (5, [.int 5, .int 1201, .ref q3, .int 0])), (q3, .inl (b4, 6005, .inl (fun _ => 0))), (q5, .inl (b6, 1201, .inr (.inl (fun _ => 0)))), (q7, .inl (b8, 24, .inr (.inl fw)))] := hD
    have hK : va_K (dC, dI) vC [(b4, .int), (b6, .long), (b8, .long)] s := hK
    have hpo : r1 = 91 := hpo
    subst hpo
    refine lv_icmp_ge (tgt := 119) hx hb dX10_init_55 (by decide) (fun _ => ?_) (fun hge => ?_)
    · exact kk fw H locs ls hP hD hS
    have hlt : i < 91 := lt91 hi hge
    exact absurd hlt (by omega)
  | succ n ih =>
    intro i wd pk fw H locs ls hi hn hwd hP hD hS hl
    refine lv_iload hx hb dX10_init_48 (lv_at hl 0 rfl) ?_
    refine va_ldcS hx hb hown hX.rf dX10_init_50 ?_
    have hPc := hP.sub (ws' := []) [] rfl
    have hDc := hD.sub (ws' := []) [] (by decide) rfl
    have hKc := hK.sub (tys' := []) [] rfl
    have hFc := va_free (wc := []) hD hS hA [] rfl
    refine va_calli (va_runV (As := []) (rest := [.int (nI i)]) ⟨hx, hb, hml, hown, hw⟩ (tJ0_length_8abf5 l dC dI H.size kK kV) ⟨callB_of 0 hw (gd mP_188) rfl rfl rfl (hw _ mP_3) (hw _ mP_189) hdJ0_length_8abf5 ⟨Nat.le_trans (Nat.le_of_ble_eq_true rfl) hRf, Nat.le_trans (Nat.le_of_ble_eq_true rfl) hRl⟩, (hw _ mP_190), (hw _ mP_191)⟩ ⟨fbe, hX.rc hS, pre hPc hKc hDc hX hFc hS⟩ rfl rfl hl.1 rfl (lv_room (Nat.le_of_ble_eq_true rfl)) dX10_init_52 ⟨hRc, hRs⟩) hS (fun q _ h => hFc q h) hFc (fun r1 u1 t H1 locs ht hvm hpo hB hz1 hk1 hS => ?_)
    have hP1 : va_P (dC, dI) vC [] H1 := va_nilP
    have hD1 : va_D (va_A [] H.size) [] := va_nilD
    obtain ⟨hP, hD⟩ := va_join (wr := [(h0, .inr (6, [.ref q1, .ref q5, .ref q7, .null, .int 0, .int 0, .int (-1)])), (q1, .inr (5, [.int 5, .int 1201, .ref q3, .int 0])), (q3, .inl (b4, 6005, .inl (fun _ => 0))), (q5, .inl (b6, 1201, .inr (.inl (fun _ => 0)))), (q7, .inl (b8, 24, .inr (.inl fw)))]) (w1 := []) hP hD [] [0, 1, 2, 3, 4] rfl rfl (by decide) (by decide) hk1 hFc hP1 hD1
    have hK := hK.sub (tys' := [(b4, .int), (b6, .long), (b8, .long)]) [0, 1, 2] rfl
    generalize H1 = H at hP hS ⊢
    have hP : va_P (dC, dI) vC [(h0, .inr (6, [.ref q1, .ref q5, .ref q7, .null, .int 0, .int 0, .int (-1)])), (q1, .inr (5, [.int 5, .int 1201, .ref q3, .int 0])), (q3, .inl (b4, 6005, .inl (fun _ => 0))), (q5, .inl (b6, 1201, .inr (.inl (fun _ => 0)))), (q7, .inl (b8, 24, .inr (.inl fw)))] H := hP
    have hD : va_D A [(h0, .inr (6, [.ref q1, .ref q5, .ref q7, .null, .int 0, .int 0, .int (-1)])), (q1, .inr (5, [.int 5, .int 1201, .ref q3, .int 0])), (q3, .inl (b4, 6005, .inl (fun _ => 0))), (q5, .inl (b6, 1201, .inr (.inl (fun _ => 0)))), (q7, .inl (b8, 24, .inr (.inl fw)))] := hD
    have hK : va_K (dC, dI) vC [(b4, .int), (b6, .long), (b8, .long)] s := hK
    have hpo : r1 = 91 := hpo
    subst hpo
    refine lv_icmp_ge (tgt := 119) hx hb dX10_init_55 (by decide) (fun _ => ?_) (fun hge => ?_)
    · exact kk fw H locs ls hP hD hS
    have hlt : i < 91 := lt91 hi hge
    refine va_ldcS hx hb hown hX.rf dX10_init_58 ?_
    refine lv_iload hx hb dX10_init_60 (lv_at hl 0 rfl) ?_
    have hPc := hP.sub (ws' := []) [] rfl
    have hDc := hD.sub (ws' := []) [] (by decide) rfl
    have hKc := hK.sub (tys' := []) [] rfl
    have hFc := va_free (wc := []) hD hS hA [] rfl
    refine va_calli (va_runV (As := [.int (nI i)]) (rest := []) ⟨hx, hb, hml, hown, hw⟩ (tJ0_charAt_5068e l dC dI H.size (nI i) (hc0 hlt) (hc1 hlt) kK kV) ⟨callB_of 1 hw (gd mP_192) rfl rfl rfl (hw _ mP_3) (hw _ mP_193) hdJ0_charAt_5068e ⟨Nat.le_trans (Nat.le_of_ble_eq_true rfl) hRf, Nat.le_trans (Nat.le_of_ble_eq_true rfl) hRl⟩, (hw _ mP_194), (hw _ mP_195)⟩ ⟨fbe, hX.rc hS, pre hPc hKc hDc hX hFc hS⟩ rfl rfl hl.1 rfl (lv_room (Nat.le_of_ble_eq_true rfl)) dX10_init_62 ⟨hRc, hRs⟩) hS (fun q _ h => hFc q h) hFc (fun r2 u2 t H1 locs ht hvm hpo hB hz1 hk1 hS => ?_)
    have hP1 : va_P (dC, dI) vC [] H1 := va_nilP
    have hD1 : va_D (va_A [] H.size) [] := va_nilD
    obtain ⟨hP, hD⟩ := va_join (wr := [(h0, .inr (6, [.ref q1, .ref q5, .ref q7, .null, .int 0, .int 0, .int (-1)])), (q1, .inr (5, [.int 5, .int 1201, .ref q3, .int 0])), (q3, .inl (b4, 6005, .inl (fun _ => 0))), (q5, .inl (b6, 1201, .inr (.inl (fun _ => 0)))), (q7, .inl (b8, 24, .inr (.inl fw)))]) (w1 := []) hP hD [] [0, 1, 2, 3, 4] rfl rfl (by decide) (by decide) hk1 hFc hP1 hD1
    have hK := hK.sub (tys' := [(b4, .int), (b6, .long), (b8, .long)]) [0, 1, 2] rfl
    generalize H1 = H at hP hS ⊢
    have hP : va_P (dC, dI) vC [(h0, .inr (6, [.ref q1, .ref q5, .ref q7, .null, .int 0, .int 0, .int (-1)])), (q1, .inr (5, [.int 5, .int 1201, .ref q3, .int 0])), (q3, .inl (b4, 6005, .inl (fun _ => 0))), (q5, .inl (b6, 1201, .inr (.inl (fun _ => 0)))), (q7, .inl (b8, 24, .inr (.inl fw)))] H := hP
    have hD : va_D A [(h0, .inr (6, [.ref q1, .ref q5, .ref q7, .null, .int 0, .int 0, .int (-1)])), (q1, .inr (5, [.int 5, .int 1201, .ref q3, .int 0])), (q3, .inl (b4, 6005, .inl (fun _ => 0))), (q5, .inl (b6, 1201, .inr (.inl (fun _ => 0)))), (q7, .inl (b8, 24, .inr (.inl fw)))] := hD
    have hK : va_K (dC, dI) vC [(b4, .int), (b6, .long), (b8, .long)] s := hK
    have ho2 : narrow .char (.int r2) = .int r2 := hpo
    refine lv_istore (lv' := [(5, .int r2), (4, .int (nI i)), (2, .long pk), (1, .int (nI wd)), (0, .ref h0)]) hx hb dX10_init_65 hl (by decide) rfl (fun ls hl => ?_)
    refine lv_iload hx hb dX10_init_67 (lv_at hl 0 rfl) ?_
    refine lv_bipush (v := 32) hx hb dX10_init_69 (by decide) ?_
    refine lv_icmp_eq (tgt := 92) hx hb dX10_init_71 (by decide) (fun c3 => ?_) (fun c3 => ?_)
    · refine lv_iload_n hx hb dX10_init_92 rfl (lv_at hl 3 rfl) ?_
      refine lv_aload_n hx hb dX10_init_93 rfl (lv_at hl 4 rfl) ?_
      refine va_get (D := (dC, dI)) (ci := 6) (v := .ref q7) (C := RX10) (T := TX10) (N := 7) hx hb hw inX10 hown hK hP 0 rfl rfl 2 (by decide) (hw _ mP_186) (fun _ h9 => h9) rfl dX10_init_94 ?_
      refine va_alen (v := 24) hx hb hK hP 4 2 rfl rfl (show Int32.ofNat 24 = 24 by decide +kernel) dX10_init_97 ?_
      refine lv_icmp_ge (tgt := 113) hx hb dX10_init_98 (by decide) (fun _ => ?_) (fun hge => ?_)
      · refine lv_iinc (v := nI (i + 1)) (lv' := [(4, .int (nI (i + 1))), (5, .int r2), (2, .long pk), (1, .int (nI wd)), (0, .ref h0)]) hx hb dX10_init_113 hl (k := 1) rfl (nI_1 i) (by decide) rfl (fun ls hl => ?_)
        refine lv_goto (tgt := 48) hx hb dX10_init_116 (by decide) ?_
        exact ih (i + 1) wd pk fw _ _ ls hlt (by omega) hwd hP hD hS (lv_sub hl [0, 2, 3, 4] rfl)
      have hwl : wd + 1 ≤ 24 := lt24 hwd hge
      refine lv_aload_n hx hb dX10_init_101 rfl (lv_at hl 4 rfl) ?_
      refine va_get (D := (dC, dI)) (ci := 6) (v := .ref q7) (C := RX10) (T := TX10) (N := 7) hx hb hw inX10 hown hK hP 0 rfl rfl 2 (by decide) (hw _ mP_186) (fun _ h9 => h9) rfl dX10_init_102 ?_
      refine lv_iload_n hx hb dX10_init_105 rfl (lv_at hl 3 rfl) ?_
      refine lv_lload_n hx hb dX10_init_106 rfl (lv_at hl 2 rfl) ?_
      refine va_last hx hb hK hP hD hS 4 2 rfl rfl (vp_in_nI hwl (by omega)) dX10_init_107 (fun H locs hP hD hS => ?_)
      obtain ⟨f4, hP, hD⟩ : ∃ f4 : Nat → Int64, va_P (dC, dI) vC [(h0, .inr (6, [.ref q1, .ref q5, .ref q7, .null, .int 0, .int 0, .int (-1)])), (q1, .inr (5, [.int 5, .int 1201, .ref q3, .int 0])), (q3, .inl (b4, 6005, .inl (fun _ => 0))), (q5, .inl (b6, 1201, .inr (.inl (fun _ => 0)))), (q7, .inl (b8, 24, .inr (.inl f4)))] H ∧ va_D A [(h0, .inr (6, [.ref q1, .ref q5, .ref q7, .null, .int 0, .int 0, .int (-1)])), (q1, .inr (5, [.int 5, .int 1201, .ref q3, .int 0])), (q3, .inl (b4, 6005, .inl (fun _ => 0))), (q5, .inl (b6, 1201, .inr (.inl (fun _ => 0)))), (q7, .inl (b8, 24, .inr (.inl f4)))] := ⟨_, hP, hD⟩
      refine lv_iinc (v := nI (wd + 1)) (lv' := [(1, .int (nI (wd + 1))), (5, .int r2), (4, .int (nI i)), (2, .long pk), (0, .ref h0)]) hx hb dX10_init_108 hl (k := 3) rfl (nI_1 wd) (by decide) rfl (fun ls hl => ?_)
      refine lv_lconst (v := 0) hx hb dX10_init_111 (by decide) ?_
      refine lv_lstore_n (lv' := [(2, .long 0), (1, .int (nI (wd + 1))), (5, .int r2), (4, .int (nI i)), (0, .ref h0)]) hx hb dX10_init_112 rfl hl (by decide) rfl (fun ls hl => ?_)
      refine lv_iinc (v := nI (i + 1)) (lv' := [(4, .int (nI (i + 1))), (2, .long 0), (1, .int (nI (wd + 1))), (5, .int r2), (0, .ref h0)]) hx hb dX10_init_113 hl (k := 3) rfl (nI_1 i) (by decide) rfl (fun ls hl => ?_)
      refine lv_goto (tgt := 48) hx hb dX10_init_116 (by decide) ?_
      exact ih (i + 1) (wd + 1) 0 f4 _ _ ls hlt (by omega) hwl hP hD hS (lv_sub hl [0, 1, 2, 4] rfl)
    · refine lv_lload_n hx hb dX10_init_74 rfl (lv_at hl 2 rfl) ?_
      refine lv_ldc2 (own := RX10) (v := 37) hx hb hown (hw _ mP_196) dX10_init_75 ?_
      refine lv_lmul hx hb dX10_init_78 ?_
      refine lv_topl (fun z5 ez5 => ?_)
      refine lv_iload hx hb dX10_init_79 (lv_at hl 0 rfl) ?_
      refine lv_bipush (v := 97) hx hb dX10_init_81 (by decide) ?_
      refine lv_isub hx hb dX10_init_83 ?_
      refine lv_topi (fun z6 ez6 => ?_)
      refine lv_iconst (v := 1) hx hb dX10_init_84 (by decide) ?_
      refine lv_iadd hx hb dX10_init_85 ?_
      refine lv_topi (fun z7 ez7 => ?_)
      refine lv_i2l hx hb dX10_init_86 rfl ?_
      refine lv_topl (fun z8 ez8 => ?_)
      refine lv_ladd hx hb dX10_init_87 ?_
      refine lv_topl (fun z9 ez9 => ?_)
      refine lv_lstore_n (lv' := [(2, .long z9), (5, .int r2), (4, .int (nI i)), (1, .int (nI wd)), (0, .ref h0)]) hx hb dX10_init_88 rfl hl (by decide) rfl (fun ls hl => ?_)
      refine lv_goto (tgt := 113) hx hb dX10_init_89 (by decide) ?_
      refine lv_iinc (v := nI (i + 1)) (lv' := [(4, .int (nI (i + 1))), (2, .long z9), (5, .int r2), (1, .int (nI wd)), (0, .ref h0)]) hx hb dX10_init_113 hl (k := 2) rfl (nI_1 i) (by decide) rfl (fun ls hl => ?_)
      refine lv_goto (tgt := 48) hx hb dX10_init_116 (by decide) ?_
      exact ih (i + 1) wd z9 fw _ _ ls hlt (by omega) hwd hP hD hS (lv_sub hl [0, 1, 3, 4] rfl)
