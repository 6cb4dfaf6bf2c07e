def R_law : String := "PaletteHouseLaw"
def lw_P (b : Addr) (xs : List Int32) (args : Array Value) (s : State) : Prop := args = #[.ref b] ∧ s.IntsAt b xs ∧ xs.length ≤ 6 ∧ (Jvm.Cond.and given_1 narrow_1).before args s = true
def lw_Q (_ : Array Value) (s : State) (o : Outcome) (t : State) : Prop := o = .returned (some (.int 1)) ∧ Framed s o t [] 600000 7302250
def lw_Z (below : List Frame) (a : Array Value) (s : State) : State → Prop := fun t => ∃ o, t.status = .running ∧ Ended t below o ∧ lw_Q a s o t
/-- the law's own end, with 1 on the stack, nothing written that was there before, its room as the claim has it -/
theorem lw_ret {p : Program} {l : Launch} {e : Env} {s : State} {m : MethodId} {below : List Frame} {meth : Method} {c : Code} {b : Nat} (hx : p.tables.exec = Jvm.exec) (hb : c.code = code) (hr : meth.sig.returnType = ret) (hlocks : meth.locks = false) {pc : Nat} {H : Heap} {ls : Array Slot} (hdg : decode code pc = .ok (.ireturn, 1)) : W p l e room_1 s m #[Value.ref b] below meth c H [] 600000 7302250 (lw_Z below #[Value.ref b] s) (F0 m pc ls [.int 1]) := by
  intro T hT X
  obtain ⟨fs, hret, hrun, hended, hW, hframe⟩ := X.leave (v := some (.int 1)) (hlocks := hlocks) (fun h => by rw [hr] at h; cases h)
  have hmeth' : T.vm.method? m = some meth := X.method'
  refine ⟨T.setFrames fs, ?_, .returned (some (.int 1)), hrun, hended, rfl, ⟨_, rfl⟩, hW, hframe⟩
  jvm_step X.here [X.here.top, hx, hb, hdg, hmeth', hr, ret, narrow_b1]
  (try refine ⟨rfl, ?_⟩); (try refine ⟨rfl, ?_⟩)
  first | (intro acts; rw [hret _ acts rfl rfl rfl]) | rw [hret _ _ rfl rfl rfl]
  exact Steps.refl _
/-- what holds at the law's entry: the machine, the code, the tables' words (any of lw_tbl by 'hts w (by decide +kernel)'), the script of L ints xs at the cell b, what the Statement gives of the start (any of its parts by flat_of_before) -/
def lw_At (p : Program) (s : State) (m : MethodId) (meth : Method) (c : Code) (b L : Nat) (xs : Nat → Int32) : Prop :=
  p.tables.exec = Jvm.exec ∧ c.code = code ∧ meth.sig.returnType = ret ∧ c.maxLocals = 4 ∧ s.vm.findClass R_law = some m.cls ∧ (∀ w ∈ lw_tbl, w.before #[Value.ref b] s = true) ∧ va_X b L xs s s.heap ∧ b < s.heap.size ∧ meth.locks = false ∧ (Jvm.Cond.and given_1 narrow_1).before #[Value.ref b] s = true
theorem len6 {L : Nat} (hL : L ≤ 6) (h : ¬ (Int32.ofNat L - 6) < 0) : L = 6 := by
  have h0 : L = 0 ∨ L = 1 ∨ L = 2 ∨ L = 3 ∨ L = 4 ∨ L = 5 ∨ L = 6 := by omega
  rcases h0 with rfl | rfl | rfl | rfl | rfl | rfl | rfl <;> first | rfl | exact absurd (by decide +kernel) h
theorem sw22 (z : Int32) : (z.toInt < 0 ∨ 21 < z.toInt) ∨ z = 0 ∨ z = 1 ∨ z = 2 ∨ z = 3 ∨ z = 4 ∨ z = 5 ∨ z = 6 ∨ z = 7 ∨ z = 8 ∨ z = 9 ∨ z = 10 ∨ z = 11 ∨ z = 12 ∨ z = 13 ∨ z = 14 ∨ z = 15 ∨ z = 16 ∨ z = 17 ∨ z = 18 ∨ z = 19 ∨ z = 20 ∨ z = 21 := by
  by_cases h : z.toInt < 0 ∨ 21 < z.toInt
  · exact Or.inl h
  · right
    have e : ∀ k : Int32, z.toInt = k.toInt → z = k := fun k h => Int32.toInt_inj.mp h
    have h1 : z.toInt = 0 ∨ z.toInt = 1 ∨ z.toInt = 2 ∨ z.toInt = 3 ∨ z.toInt = 4 ∨ z.toInt = 5 ∨ z.toInt = 6 ∨ z.toInt = 7 ∨ z.toInt = 8 ∨ z.toInt = 9 ∨ z.toInt = 10 ∨ z.toInt = 11 ∨ z.toInt = 12 ∨ z.toInt = 13 ∨ z.toInt = 14 ∨ z.toInt = 15 ∨ z.toInt = 16 ∨ z.toInt = 17 ∨ z.toInt = 18 ∨ z.toInt = 19 ∨ z.toInt = 20 ∨ z.toInt = 21 := by omega
    rcases h1 with h | h | h | h | h | h | h | h | h | h | h | h | h | h | h | h | h | h | h | h | h | h
    · exact Or.inl (e 0 (by rw [h]; decide +kernel))
    · exact Or.inr (Or.inl (e 1 (by rw [h]; decide +kernel)))
    · exact Or.inr (Or.inr (Or.inl (e 2 (by rw [h]; decide +kernel))))
    · exact Or.inr (Or.inr (Or.inr (Or.inl (e 3 (by rw [h]; decide +kernel)))))
    · exact Or.inr (Or.inr (Or.inr (Or.inr (Or.inl (e 4 (by rw [h]; decide +kernel))))))
    · exact Or.inr (Or.inr (Or.inr (Or.inr (Or.inr (Or.inl (e 5 (by rw [h]; decide +kernel)))))))
    · exact Or.inr (Or.inr (Or.inr (Or.inr (Or.inr (Or.inr (Or.inl (e 6 (by rw [h]; decide +kernel))))))))
    · exact Or.inr (Or.inr (Or.inr (Or.inr (Or.inr (Or.inr (Or.inr (Or.inl (e 7 (by rw [h]; decide +kernel)))))))))
    · exact Or.inr (Or.inr (Or.inr (Or.inr (Or.inr (Or.inr (Or.inr (Or.inr (Or.inl (e 8 (by rw [h]; decide +kernel))))))))))
    · exact Or.inr (Or.inr (Or.inr (Or.inr (Or.inr (Or.inr (Or.inr (Or.inr (Or.inr (Or.inl (e 9 (by rw [h]; decide +kernel)))))))))))
    · exact Or.inr (Or.inr (Or.inr (Or.inr (Or.inr (Or.inr (Or.inr (Or.inr (Or.inr (Or.inr (Or.inl (e 10 (by rw [h]; decide +kernel))))))))))))
    · exact Or.inr (Or.inr (Or.inr (Or.inr (Or.inr (Or.inr (Or.inr (Or.inr (Or.inr (Or.inr (Or.inr (Or.inl (e 11 (by rw [h]; decide +kernel)))))))))))))
    · exact Or.inr (Or.inr (Or.inr (Or.inr (Or.inr (Or.inr (Or.inr (Or.inr (Or.inr (Or.inr (Or.inr (Or.inr (Or.inl (e 12 (by rw [h]; decide +kernel))))))))))))))
    · exact Or.inr (Or.inr (Or.inr (Or.inr (Or.inr (Or.inr (Or.inr (Or.inr (Or.inr (Or.inr (Or.inr (Or.inr (Or.inr (Or.inl (e 13 (by rw [h]; decide +kernel)))))))))))))))
    · exact Or.inr (Or.inr (Or.inr (Or.inr (Or.inr (Or.inr (Or.inr (Or.inr (Or.inr (Or.inr (Or.inr (Or.inr (Or.inr (Or.inr (Or.inl (e 14 (by rw [h]; decide +kernel))))))))))))))))
    · exact Or.inr (Or.inr (Or.inr (Or.inr (Or.inr (Or.inr (Or.inr (Or.inr (Or.inr (Or.inr (Or.inr (Or.inr (Or.inr (Or.inr (Or.inr (Or.inl (e 15 (by rw [h]; decide +kernel)))))))))))))))))
    · exact Or.inr (Or.inr (Or.inr (Or.inr (Or.inr (Or.inr (Or.inr (Or.inr (Or.inr (Or.inr (Or.inr (Or.inr (Or.inr (Or.inr (Or.inr (Or.inr (Or.inl (e 16 (by rw [h]; decide +kernel))))))))))))))))))
    · exact Or.inr (Or.inr (Or.inr (Or.inr (Or.inr (Or.inr (Or.inr (Or.inr (Or.inr (Or.inr (Or.inr (Or.inr (Or.inr (Or.inr (Or.inr (Or.inr (Or.inr (Or.inl (e 17 (by rw [h]; decide +kernel)))))))))))))))))))
    · exact Or.inr (Or.inr (Or.inr (Or.inr (Or.inr (Or.inr (Or.inr (Or.inr (Or.inr (Or.inr (Or.inr (Or.inr (Or.inr (Or.inr (Or.inr (Or.inr (Or.inr (Or.inr (Or.inl (e 18 (by rw [h]; decide +kernel))))))))))))))))))))
    · exact Or.inr (Or.inr (Or.inr (Or.inr (Or.inr (Or.inr (Or.inr (Or.inr (Or.inr (Or.inr (Or.inr (Or.inr (Or.inr (Or.inr (Or.inr (Or.inr (Or.inr (Or.inr (Or.inr (Or.inl (e 19 (by rw [h]; decide +kernel)))))))))))))))))))))
    · exact Or.inr (Or.inr (Or.inr (Or.inr (Or.inr (Or.inr (Or.inr (Or.inr (Or.inr (Or.inr (Or.inr (Or.inr (Or.inr (Or.inr (Or.inr (Or.inr (Or.inr (Or.inr (Or.inr (Or.inr (Or.inl (e 20 (by rw [h]; decide +kernel))))))))))))))))))))))
    · exact Or.inr (Or.inr (Or.inr (Or.inr (Or.inr (Or.inr (Or.inr (Or.inr (Or.inr (Or.inr (Or.inr (Or.inr (Or.inr (Or.inr (Or.inr (Or.inr (Or.inr (Or.inr (Or.inr (Or.inr (Or.inr (e 21 (by rw [h]; decide +kernel))))))))))))))))))))))
theorem known_all {args : Array Value} {s : State} (hw : ∀ w ∈ wP, w.before args s = true) : ∃ (dC : Nat → ClassId) (dI : Nat → Nat → Nat), ∀ (k : Nat) (q : vw_C), vC[k]? = some q → u_Kn s q.1 q.2.1 q.2.2 (dC k) (dI k) := by
  obtain ⟨c0, i0, h0⟩ := u_known (C := RX1) (T := TX1) (N := 8) (n := 8) hw inX1 (hw (.instantiable RX1 8) mP_233)
  obtain ⟨c1, i1, h1⟩ := u_known (C := RX2) (T := TX2) (N := 3) (n := 3) hw inX2 (hw (.instantiable RX2 3) mP_212)
  obtain ⟨c2, i2, h2⟩ := u_known (C := RX3) (T := TX3) (N := 12) (n := 12) hw inX3 (hw (.instantiable RX3 12) mP_246)
  obtain ⟨c3, i3, h3⟩ := u_known (C := RX6) (T := TX6) (N := 6) (n := 6) hw inX6 (hw (.instantiable RX6 6) mP_202)
  obtain ⟨c4, i4, h4⟩ := u_known (C := RX7) (T := TX7) (N := 11) (n := 11) hw inX7 (hw (.instantiable RX7 11) mP_222)
  obtain ⟨c5, i5, h5⟩ := u_known (C := RX9) (T := TX9) (N := 4) (n := 4) hw inX9 (hw (.instantiable RX9 4) mP_170)
  obtain ⟨c6, i6, h6⟩ := u_known (C := RX10) (T := TX10) (N := 7) (n := 7) hw inX10 (hw (.instantiable RX10 7) mP_166)
  obtain ⟨c7, i7, h7⟩ := u_known (C := RX11) (T := TX11) (N := 15) (n := 15) hw inX11 (hw (.instantiable RX11 15) mP_25)
  obtain ⟨c8, i8, h8⟩ := u_known (C := RX12) (T := TX12) (N := 105) (n := 105) hw inX12 (hw (.instantiable RX12 105) mP_39)
  refine ⟨fun k => [c0, c1, c2, c3, c4, c5, c6, c7, c8].getD k c0, fun k => [i0, i1, i2, i3, i4, i5, i6, i7, i8].getD k i0, ?_⟩
  intro k q hq
  match k, hq with
  | 0, hq => cases hq; exact h0
  | 1, hq => cases hq; exact h1
  | 2, hq => cases hq; exact h2
  | 3, hq => cases hq; exact h3
  | 4, hq => cases hq; exact h4
  | 5, hq => cases hq; exact h5
  | 6, hq => cases hq; exact h6
  | 7, hq => cases hq; exact h7
  | 8, hq => cases hq; exact h8
  | k + 9, hq => simp [vC] at hq
theorem Xt_start {b : Nat} {s : State} (hts : ∀ w ∈ lw_tbl, w.before #[Value.ref b] s = true) (hgv : (Jvm.Cond.and given_1 narrow_1).before #[Value.ref b] s = true) : ∃ kK kV : Nat, Xt kK kV (fun q : Nat => s.heap.size ≤ q) s s.heap := by
  have hs := flat_of_before _ hgv
  have hA : ∀ a : Nat, a < s.heap.size → ¬ (fun q : Nat => s.heap.size ≤ q) a := fun a h => Nat.not_le.mpr h
  have hel : ∀ j : Nat, j < 91 → (Cond.eq (.elem (.field (.string "PaletteHouse$Text" 31) "java/lang/String" "value" "[B") (.int (Int32.ofNat j))) (.int (btl.getD j 0))).before #[Value.ref b] s = true := by
    have hm : ∀ j, j < 91 → (Cond.eq (.elem (.field (.string "PaletteHouse$Text" 31) "java/lang/String" "value" "[B") (.int (Int32.ofNat j))) (.int (btl.getD j 0))) ∈ flatC (Jvm.Cond.and given_1 narrow_1) := by decide +kernel
    exact fun j hj => hs _ (hm j hj)
  have hle : ∀ i : Nat, i < 1 → (Cond.eq (.length (.field (.string "PaletteHouse$Text" 31) "java/lang/String" "value" "[B")) (.int (Int32.ofNat (([91] : List Nat).getD i 0)))).before #[Value.ref b] s = true := by
    intro i hi
    obtain rfl : i = 0 := by omega
    exact hs _ (by decide +kernel)
  have hel2 : ∀ i : Nat, i < 1 → ∀ j : Nat, j < ([91] : List Nat).getD i 0 → (Cond.eq (.elem (.field (.string "PaletteHouse$Text" 31) "java/lang/String" "value" "[B") (.int (Int32.ofNat j))) (.int ((([btl] : List (List Int32)).getD i []).getD j 0))).before #[Value.ref b] s = true := by
    intro i hi j hj
    obtain rfl : i = 0 := by omega
    exact hel j hj
  obtain ⟨adK, adV, hE, hT⟩ := vk_Sof (args := #[Value.ref b]) (s := s) (N := 1) (tm := fun _ => .string "PaletteHouse$Text" 31) (len := [91]) (byt := [btl]) (A := fun q : Nat => s.heap.size ≤ q) (by decide +kernel) (fun _ _ => hs _ (by decide +kernel)) (fun _ _ => hs _ (by decide +kernel)) (fun _ _ => hs _ (by decide +kernel)) hle hel2 (fun i j hi hj hne => absurd (show i = j by omega) hne) hA
  refine ⟨adK 0, adV 0, ⟨va_Nw.of rfl (hts _ (tb_1 _ (List.mem_of_getElem? (i := 173) rfl))), va_Nw.of rfl (hts _ (tb_1 _ (List.mem_of_getElem? (i := 174) rfl))), va_Nw.of rfl (hts _ (tb_2 _ (List.mem_of_getElem? (i := 1) rfl))), va_Nw.of rfl (hts _ (tb_2 _ (List.mem_of_getElem? (i := 9) rfl))), va_Nw.of rfl (hts _ (tb_2 _ (List.mem_of_getElem? (i := 40) rfl)))⟩, vk_R.of (hts _ (tb_1 _ (List.mem_of_getElem? (i := 123) rfl))) (hT 0 (by decide)), (hE.1 0 (by decide)).1, (hE.1 0 (by decide)).2.1, (hE.1 0 (by decide)).2.2.1, (hE.1 0 (by decide)).2.2.2, ?_, ?_⟩
  · exact va_Zof (hts _ (tb_1 _ (List.mem_of_getElem? (i := 133) rfl))) (hts _ (tb_1 _ (List.mem_of_getElem? (i := 6) rfl))) (va_eqt (hs (Cond.eq (.static "java/lang/String" "COMPACT_STRINGS" "Z") (.int 1)) (by decide +kernel))) hA
  · exact va_Zqof (hts _ (tb_1 _ (List.mem_of_getElem? (i := 149) rfl))) (hts _ (tb_1 _ (List.mem_of_getElem? (i := 8) rfl))) (hs (Cond.isRef (.static "jdk/internal/util/Preconditions" "SIOOBE_FORMATTER" "Ljava/util/function/BiFunction;")) (by decide +kernel)) hA

