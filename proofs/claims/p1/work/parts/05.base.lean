section
variable {p : Program} {l : Launch} {e : Env} {R : Room} {s : State} {m : MethodId} {args : Array Value} {below : List Frame} {meth : Method} {c : Code} {H : Heap} {locs : List Loc} {cells slots : Nat} {Q : State → Prop} {pc : Nat} {ls : Array Slot} {rest : List Value}
theorem lv_nmi {x y : Int32} (h : x = y) (k : W p l e R s m args below meth c H locs cells slots Q (F0 m pc ls (.int y :: rest))) : W p l e R s m args below meth c H locs cells slots Q (F0 m pc ls (.int x :: rest)) := h ▸ k
end
theorem vin {i : Int32} {n : Nat} (h : (decide (i < 0) || decide (n ≤ i.toNatClampNeg)) = false) : vp_in i n := by
  intro q
  rcases q with q | q
  · rw [decide_eq_true q] at h; cases h
  · rw [decide_eq_true q, Bool.or_true] at h; cases h
def btl : List Int32 := [99, 111, 112, 121, 32, 110, 101, 103, 32, 110, 111, 116, 32, 97, 100, 100, 32, 115, 117, 98, 32, 109, 117, 108, 32, 100, 105, 118, 32, 114, 101, 109, 32, 97, 110, 100, 32, 111, 114, 32, 120, 111, 114, 32, 115, 104, 108, 32, 115, 104, 114, 32, 108, 116, 32, 101, 113, 32, 105, 110, 32, 103, 101, 116, 32, 111, 117, 116, 32, 112, 117, 116, 32, 103, 111, 32, 105, 102, 32, 114, 101, 116, 32, 102, 117, 110, 32, 112, 104, 105, 32]
def bt (j : Nat) : Int32 := btl.getD j 0
theorem vin91 {x : Int32} (h0 : ¬ x < 0) (h1 : x < 91) : vp_in x 91 := by
  rintro (q | q)
  · exact h0 q
  · have h2 := Int32.lt_iff_toInt_lt.mp h1
    have h3 : (91 : Int32).toInt = 91 := by decide +kernel
    rw [h3] at h2
    have h4 : 91 ≤ x.toInt.toNat := q
    omega
theorem ch_nar (x : Int32) : narrow .char (.int ((x.toUInt32 % 65536).toInt32)) = .int ((x.toUInt32 % 65536).toInt32) := by
  show Value.int _ = Value.int _
  congr 1
  have h : ∀ y : UInt32, y % 65536 % 65536 = y % 65536 := fun y => UInt32.toNat_inj.mp (by simp)
  simp [UInt32.toUInt32_toUInt16, h]
theorem lt91 {i : Nat} (hi : i ≤ 91) (h : ¬ (91 : Int32) ≤ nI i) : i < 91 := by
  rcases Nat.lt_or_ge i 91 with q | q
  · exact q
  · have e : i = 91 := by omega
    subst e
    exact absurd (by decide +kernel) h
theorem lt24 {i : Nat} (hi : i ≤ 24) (h : ¬ (24 : Int32) ≤ nI i) : i + 1 ≤ 24 := by
  rcases Nat.lt_or_ge i 24 with q | q
  · exact q
  · have e : i = 24 := by omega
    subst e
    exact absurd (by decide +kernel) h
theorem hc0 {i : Nat} (h : i < 91) : ¬ nI i < 0 := by
  intro q
  rw [Int32.lt_iff_toInt_lt, nI_toInt (by omega), Int32.toInt_zero] at q
  omega
theorem hc1 {i : Nat} (h : i < 91) : nI i < 91 := by
  have e : (91 : Int32) = nI 91 := by decide +kernel
  rw [e]
  exact nI_lt h (by omega)
def fBack (x : Int32) : Int32 := if x < 0 then -1 else if x ≤ 0 then 0 - x else -1
def fCount (x : Int32) : Int32 := if x < 0 then -1 else if x ≤ 12 then 0 else -1
theorem va_nilP {D : va_G} {cl : List vw_C} {H : Heap} : va_P D cl [] H := fun k q h => by simp at h
theorem va_nilD {A : Nat → Prop} : va_D A [] := ⟨fun i j p q h => by simp at h, fun k q h => by simp at h⟩
def Pz (dC : Nat → ClassId) (dI : Nat → Nat → Nat) (av : List Value) (sz : Nat) (ws : va_W) (tys : List (ClassId × FieldType)) : Array Value → State → Prop := va_Pc av (fun U => U.heap.size = sz ∧ va_P (dC, dI) vC ws U.heap ∧ va_K (dC, dI) vC tys U ∧ va_D (fun _ => True) ws)
theorem fbz {dC : Nat → ClassId} {dI : Nat → Nat → Nat} {av : List Value} {sz : Nat} {ws : va_W} {tys : List (ClassId × FieldType)} : FrameBlind (Pz dC dI av sz ws tys) := fun a U g mk q => by
  obtain ⟨q0, q1, qP, qK, qD⟩ := q
  exact ⟨q0, q1, qP, va_K.moved (u := U) (U := U.calling g mk a) (Vm.Alike.refl U.vm) qK, qD⟩
theorem prz {dC : Nat → ClassId} {dI : Nat → Nat → Nat} {av : List Value} {s : State} {H : Heap} {A : Nat → Prop} {ws : va_W} {tys : List (ClassId × FieldType)} (hPc : va_P (dC, dI) vC ws H) (hKc : va_K (dC, dI) vC tys s) (hDc : va_D A ws) : ∀ U : State, U.heap = H → s.WarmedH U.vm → Pz dC dI av H.size ws tys av.toArray U := fun U hU hW => ⟨rfl, by rw [hU], by rw [hU]; exact hPc, va_K.moved hW.alike hKc, hDc.weaken (fun _ _ _ _ => trivial)⟩
/-- what rides along on the road of read: private members of nest mates, the words' literal, the two statics that String reads -/
def Xt (kK kV : Nat) (A : Nat → Prop) (U : State) (H : Heap) : Prop :=
  (va_Nw (.fieldLinkNest RX6 15 "PaletteHouse$Text" "tokens" "LPaletteHouse$Table;" "PaletteHouse") U ∧ va_Nw (.fieldLinkNest RX2 15 "PaletteHouse$Text" "tokens" "LPaletteHouse$Table;" "PaletteHouse") U ∧ va_Nw (.methodLinkNest RX11 57 yX7_init "PaletteHouse") U ∧ va_Nw (.methodLinkNest RX7 34 yX1_init "PaletteHouse") U ∧ va_Nw (.methodLinkNest RX7 41 yX3_init "PaletteHouse") U) ∧ vk_R RX10 31 "copy neg not add sub mul div rem and or xor shl shr lt eq in get out put go if ret fun phi " kK U ∧ va_O "java/lang/String" kK A U H ∧ va_OF "java/lang/String" "coder" "B" (.int 0) kK A U H ∧ va_OF "java/lang/String" "value" "[B" (.ref kV) kK A U H ∧ va_T .byte kV 91 (fun j => .int (bt j)) A U H ∧ va_Z "java/lang/String" "COMPACT_STRINGS" "Z" (.int 1) A U H ∧ va_Zq "jdk/internal/util/Preconditions" "SIOOBE_FORMATTER" "Ljava/util/function/BiFunction;" A U H
section
variable {kK kV : Nat} {A B : Nat → Prop} {s U : State} {H : Heap}
theorem Xt.nX615 (h : Xt kK kV A U H) : va_Nw (.fieldLinkNest RX6 15 "PaletteHouse$Text" "tokens" "LPaletteHouse$Table;" "PaletteHouse") U := h.1.1
theorem Xt.nX215 (h : Xt kK kV A U H) : va_Nw (.fieldLinkNest RX2 15 "PaletteHouse$Text" "tokens" "LPaletteHouse$Table;" "PaletteHouse") U := h.1.2.1
theorem Xt.nX1157 (h : Xt kK kV A U H) : va_Nw (.methodLinkNest RX11 57 yX7_init "PaletteHouse") U := h.1.2.2.1
theorem Xt.nX734 (h : Xt kK kV A U H) : va_Nw (.methodLinkNest RX7 34 yX1_init "PaletteHouse") U := h.1.2.2.2.1
theorem Xt.nX741 (h : Xt kK kV A U H) : va_Nw (.methodLinkNest RX7 41 yX3_init "PaletteHouse") U := h.1.2.2.2.2
theorem Xt.rf (h : Xt kK kV A U H) : vk_R RX10 31 "copy neg not add sub mul div rem and or xor shl shr lt eq in get out put go if ret fun phi " kK U := h.2.1
theorem Xt.ob (h : Xt kK kV A U H) : va_O "java/lang/String" kK A U H := h.2.2.1
theorem Xt.co (h : Xt kK kV A U H) : va_OF "java/lang/String" "coder" "B" (.int 0) kK A U H := h.2.2.2.1
theorem Xt.vl (h : Xt kK kV A U H) : va_OF "java/lang/String" "value" "[B" (.ref kV) kK A U H := h.2.2.2.2.1
theorem Xt.tx (h : Xt kK kV A U H) : va_T .byte kV 91 (fun j => .int (bt j)) A U H := h.2.2.2.2.2.1
theorem Xt.cs (h : Xt kK kV A U H) : va_Z "java/lang/String" "COMPACT_STRINGS" "Z" (.int 1) A U H := h.2.2.2.2.2.2.1
theorem Xt.fm (h : Xt kK kV A U H) : va_Z "jdk/internal/util/Preconditions" "SIOOBE_FORMATTER" "Ljava/util/function/BiFunction;" .null A U H ∨ ∃ t : Nat, va_Z "jdk/internal/util/Preconditions" "SIOOBE_FORMATTER" "Ljava/util/function/BiFunction;" (.ref t) A U H := h.2.2.2.2.2.2.2
theorem Xt.rc {locs : List Loc} (h : Xt kK kV A s s.heap) (hS : va_S A s.heap H locs) : ∃ cell : Cell, H[kK]? = some cell ∧ cell.vm.isStatics = false ∧ s.vm.findClass RJ0 = some cell.cls := by
  obtain ⟨cell, h1, h2, h3, -⟩ := h.ob.kept hS.2.1
  exact ⟨cell, h1, h2, h3⟩
theorem Xt.calls (h : Xt kK kV A U U.heap) {g : JFrame} {mk : MethodId} {a : Array Value} : Xt kK kV A (U.calling g mk a) (U.calling g mk a).heap := by
  obtain ⟨⟨n1, n2, n3, n4, n5⟩, r, o, c1, v1, t1, z1, q1⟩ := h
  have hA : U.vm.Alike (U.calling g mk a).vm := Vm.Alike.refl U.vm
  exact ⟨⟨va_Nw.same rfl rfl n1, va_Nw.same rfl rfl n2, va_Nw.same rfl rfl n3, va_Nw.same rfl rfl n4, va_Nw.same rfl rfl n5⟩, vk_R.same rfl r, va_O.moved hA o, va_OF.moved hA c1, va_OF.moved hA v1, va_T.moved hA t1, va_Z.moved hA z1, va_Zq.moved hA q1⟩
theorem Xt.warm (h : Xt kK kV A s s.heap) (hW : s.WarmedH U.vm) (hAB : ∀ q, B q → A q) (hq : ∀ q : Nat, q < s.heap.size → ¬ A q → H[q]? = s.heap[q]?) : Xt kK kV B U H := by
  obtain ⟨⟨n1, n2, n3, n4, n5⟩, r, o, c1, v1, t1, z1, q1⟩ := h
  have hA := hW.alike
  exact ⟨⟨va_Nw.warmF hW n1, va_Nw.warmF hW n2, va_Nw.warmM hW n3, va_Nw.warmM hW n4, va_Nw.warmM hW n5⟩, vk_R.warm hW r, va_O.moved hA ((o.kept hq).narrow hAB), va_OF.moved hA ((c1.kept hq).narrow hAB), va_OF.moved hA ((v1.kept hq).narrow hAB), va_T.moved hA ((t1.kept hq).narrow hAB), va_Z.moved hA ((z1.kept hq).narrow hAB), va_Zq.moved hA ((q1.kept hq).narrow hAB)⟩
end
def Pe (dC : Nat → ClassId) (dI : Nat → Nat → Nat) (av : List Value) (sz : Nat) (ws : va_W) (tys : List (ClassId × FieldType)) (kK kV : Nat) : Array Value → State → Prop := va_Pc av (fun U => U.heap.size = sz ∧ va_P (dC, dI) vC ws U.heap ∧ va_K (dC, dI) vC tys U ∧ va_D (fun _ => True) ws ∧ Xt kK kV (va_A ws sz) U U.heap)
theorem fbe {dC : Nat → ClassId} {dI : Nat → Nat → Nat} {av : List Value} {sz : Nat} {ws : va_W} {tys : List (ClassId × FieldType)} {kK kV : Nat} : FrameBlind (Pe dC dI av sz ws tys kK kV) := fun a U g mk q => by
  obtain ⟨q0, q1, qP, qK, qD, qX⟩ := q
  exact ⟨q0, q1, qP, va_K.moved (u := U) (U := U.calling g mk a) (Vm.Alike.refl U.vm) qK, qD, qX.calls⟩
theorem pre {dC : Nat → ClassId} {dI : Nat → Nat → Nat} {av : List Value} {s : State} {H : Heap} {A : Nat → Prop} {ws : va_W} {tys : List (ClassId × FieldType)} {kK kV : Nat} {locs : List Loc} (hPc : va_P (dC, dI) vC ws H) (hKc : va_K (dC, dI) vC tys s) (hDc : va_D A ws) (hX : Xt kK kV A s s.heap) (hF : ∀ q, va_A ws H.size q → A q) (hS : va_S A s.heap H locs) : ∀ U : State, U.heap = H → s.WarmedH U.vm → Pe dC dI av H.size ws tys kK kV av.toArray U := fun U hU hW => ⟨rfl, by rw [hU], by rw [hU]; exact hPc, va_K.moved hW.alike hKc, hDc.weaken (fun _ _ _ _ => trivial), by rw [hU]; exact hX.warm hW hF hS.2.1⟩
/-- the reference's own fields: those that a first call looks at, by their places -/
def KIX : List Nat := [1, 2, 3, 5, 6, 7, 8, 10, 11, 12, 13, 14, 15, 16, 17, 18, 19, 20, 21, 56, 46, 75, 79, 94, 92, 93]
def MF (fs vs : List Value) : Prop := fs.length = 105 ∧ KIX.map (fun i => fs[i]?) = vs.map some
theorem MF.len {fs vs : List Value} (h : MF fs vs) {k : Nat} (hk : k < 105) : k < fs.length := by rw [h.1]; exact hk
theorem MF.get {fs vs : List Value} (h : MF fs vs) (j : Nat) {k : Nat} {v : Value} (hj : KIX[j]? = some k) (hv : vs[j]? = some v) : fs[k]? = some v := by
  have h1 := congrArg (fun l => l[j]?) h.2
  simp only [List.getElem?_map, hj, hv, Option.map_some] at h1
  exact Option.some.inj h1
theorem KIX_nd : ∀ i, i < KIX.length → ∀ j, j < KIX.length → KIX[i]? = KIX[j]? → i = j := by decide +kernel
theorem KIX_lt : ∀ k ∈ KIX, k < 105 := by decide +kernel
theorem MF.put {fs vs : List Value} (h : MF fs vs) (j : Nat) {k : Nat} {v : Value} (hj : KIX[j]? = some k) : MF (fs.set k v) (vs.set j v) := by
  have hjl : j < KIX.length := (List.getElem?_eq_some_iff.mp hj).1
  have hlen : vs.length = KIX.length := by have := congrArg List.length h.2; simpa using this.symm
  refine ⟨by rw [List.length_set]; exact h.1, List.ext_getElem? fun i => ?_⟩
  have hi := congrArg (fun l => l[i]?) h.2
  simp only [List.getElem?_map] at hi ⊢
  by_cases e : i = j
  · subst e
    rw [hj, List.getElem?_set_self (by omega)]
    simp only [Option.map_some]
    rw [List.getElem?_set_self (by rw [h.1]; exact KIX_lt k (List.mem_of_getElem? hj))]
  · rw [List.getElem?_set_ne (fun q => e q.symm)]
    rw [← hi]
    cases hk : KIX[i]? with
    | none => rfl
    | some k2 =>
      simp only [Option.map_some]
      have hil : i < KIX.length := (List.getElem?_eq_some_iff.mp hk).1
      have hne : k ≠ k2 := fun q => e (KIX_nd i hil j hjl (by rw [hk, hj, q]))
      rw [List.getElem?_set_ne hne]
theorem MF.oth {fs vs : List Value} (h : MF fs vs) {k : Nat} {v : Value} (hk : k ∉ KIX) : MF (fs.set k v) vs := by
  refine ⟨by rw [List.length_set]; exact h.1, ?_⟩
  rw [← h.2]
  refine List.map_congr_left fun i hi => ?_
  have hne : k ≠ i := fun q => hk (by rw [q]; exact hi)
  exact List.getElem?_set_ne hne

