theorem inJ0 : ∀ w ∈ wsJ00, w ∈ lw_U := by decide +kernel
theorem inJx00060 : ∀ w ∈ wsJx000600, w ∈ lw_U := by decide +kernel
theorem inJx7c733 : ∀ w ∈ wsJx7c7330, w ∈ lw_U := by decide +kernel
/-! the law's entry: what the Statement's premises give -/
theorem st_sub {C : String} {y : MethodName} {s : State} {args : Array Value} {n : Nat} (hy : y.cls ≠ "java/lang/invoke/MethodHandle" ∧ y.cls ≠ "java/lang/invoke/VarHandle") (hins : (Cond.instantiable C n).before args s = true) (hpriv : (Cond.privateMethod y).before args s = true) (hinst : (Cond.instanceMethod y).before args s = true) : (Cond.selects C y y).before args s = true := by
  obtain ⟨c, k, hc, hk, -, hniab, -, -⟩ := Cond.instantiable_spec hins
  have hni : k.isInterface = false := (Bool.or_eq_false_iff.mp hniab).1
  obtain ⟨mk, methM, hnamed, hmethM, -, -⟩ := Cond.instanceMethod_spec hinst
  have hfound : s.methodFound? y.cls y.name y.desc = some mk := State.methodFound?_of_named hnamed hy
  have hsel : selectMethod {} s.vm c mk = .method mk := selectMethod_private hmethM (Cond.privateMethod_at hpriv mk methM hnamed hmethM)
  simp only [Cond.before, Cond.holds, Cond.value, hc, hfound, hnamed, hsel, hk]
  simp; exact hni
theorem st_U {s : State} {b : Nat} (hts : ∀ w ∈ lw_tbl, w.before #[Value.ref b] s = true) : ∀ w ∈ lw_U, w.before #[Value.ref b] s = true := by
  intro w hw
  rcases List.mem_append.mp (List.mem_filter.mp hw).1 with h | h
  · simp only [lw_X, List.mem_cons, List.not_mem_nil, or_false] at h
    rcases h with rfl | rfl
    · exact st_sub ⟨by decide +kernel, by decide +kernel⟩ (hts (Cond.instantiable RJ4 4) (mT (mT2 (List.mem_of_getElem? (i := 40) rfl)))) (hts _ (mT (mT3 (List.mem_of_getElem? (i := 54) rfl)))) (hts _ (mT (mT3 (List.mem_of_getElem? (i := 55) rfl))))
    · exact st_sub ⟨by decide +kernel, by decide +kernel⟩ (hts (Cond.instantiable RJ4 4) (mT (mT2 (List.mem_of_getElem? (i := 40) rfl)))) (hts _ (mT (mT3 (List.mem_of_getElem? (i := 58) rfl)))) (hts _ (mT (mT3 (List.mem_of_getElem? (i := 59) rfl))))
  · exact hts w h
theorem st_N {s : State} {b : Nat} (hts : ∀ w ∈ lw_tbl, w.before #[Value.ref b] s = true) : EN s := fun w hw => va_Nw.of (onN hw) (hts w (mT (List.mem_filter.mp hw).1))

theorem st_c {s : State} {args : Array Value} (hU : ∀ w ∈ lw_U, w.before args s = true) {C : String} {T : u_T} {N n : Nat} (hin : ∀ w ∈ u_ws C T N, w ∈ lw_U) (hi : (Cond.instantiable C n).before args s = true) : ∃ p : ClassId × (Nat → Nat), u_Kn s C T N p.1 p.2 := by
  obtain ⟨cC, iS, h⟩ := u_known hU hin hi
  exact ⟨(cC, iS), h⟩
theorem st_K {s : State} {args : Array Value} (hU : ∀ w ∈ lw_U, w.before args s = true) : ∃ (dC : Nat → ClassId) (dI : Nat → Nat → Nat), ∀ (c : Nat) (q : vw_C), vwCl[c]? = some q → u_Kn s q.1 q.2.1 q.2.2 (dC c) (dI c) := by
  have h : ∀ q ∈ vwCl, ∃ p : ClassId × (Nat → Nat), u_Kn s q.1 q.2.1 q.2.2 p.1 p.2 :=
    List.forall_mem_cons.mpr ⟨st_c hU inJ0 (hU _ q672), List.forall_mem_cons.mpr ⟨st_c hU inJ4 (hU _ q280), List.forall_mem_cons.mpr ⟨st_c hU inJx00060 (hU _ q828), List.forall_mem_cons.mpr ⟨st_c hU inJx7c733 (hU _ q515), List.forall_mem_cons.mpr ⟨st_c hU inX1 (hU _ q135), List.forall_mem_cons.mpr ⟨st_c hU inX2 (hU _ q236), List.forall_mem_cons.mpr ⟨st_c hU inX3 (hU _ q195), List.forall_mem_cons.mpr ⟨st_c hU inX4 (hU _ q214), List.forall_mem_cons.mpr ⟨st_c hU inX5 (hU _ q111), List.forall_mem_cons.mpr ⟨st_c hU inX6 (hU _ q229), List.forall_mem_cons.mpr ⟨st_c hU inX7 (hU _ q58), List.forall_mem_cons.mpr ⟨st_c hU inX8 (hU _ q88), List.forall_mem_cons.mpr ⟨st_c hU inX9 (hU _ q52), List.forall_mem_cons.mpr ⟨st_c hU inX11 (hU _ q46), List.forall_mem_cons.mpr ⟨st_c hU inX12 (hU _ q38), List.forall_mem_cons.mpr ⟨st_c hU inX13 (hU _ q1679), fun _ h9 => absurd h9 List.not_mem_nil⟩⟩⟩⟩⟩⟩⟩⟩⟩⟩⟩⟩⟩⟩⟩⟩
  have h0 : ∀ c : Nat, ∃ p : ClassId × (Nat → Nat), ∀ q : vw_C, vwCl[c]? = some q → u_Kn s q.1 q.2.1 q.2.2 p.1 p.2 := by
    intro c
    cases hq : vwCl[c]? with
    | none => exact ⟨(0, fun _ => 0), fun q h => by cases h⟩
    | some q =>
      obtain ⟨p, hp⟩ := h q (List.mem_of_getElem? hq)
      exact ⟨p, fun q' h => by cases h; exact hp⟩
  obtain ⟨f, hf⟩ := Classical.axiomOfChoice h0
  exact ⟨fun c => (f c).1, fun c => (f c).2, fun c q hq => hf c q hq⟩
theorem st_arr {s : State} {args : Array Value} {ty : FieldType} (h : (Cond.arrayClass ty).before args s = true) : ∃ c : ClassId, ArrOfT s c ty ∧ s.vm.findClass ("[" ++ ty.toString) = some c := by
  obtain ⟨c, k, comp, h1, h2, h3⟩ := Cond.arrayClass_spec (args := args) (first := s) (o := none) (s := s) (idx := []) h
  exact ⟨c, fun n z => ⟨(fun k h => by cases h), k, h2, comp, h3⟩, h1⟩
theorem st_over {s : State} {args : Array Value} {C : String} (h : (Cond.arrayOver (.object C)).before args s = true) : ∃ c : ClassId, ArrOfT s c (.object C) ∧ va_RA s c (.object C) := by
  obtain ⟨comp, c, k, h1, -, h3, h4, h5⟩ := Cond.arrayOver_spec (args := args) (first := s) (o := none) (s := s) (idx := []) h
  exact ⟨c, fun n z => ⟨(fun k h => by cases h), k, h3, comp, h4⟩, k, comp, h3, h4, h1, h5⟩
def NW : List Cond := flatC (Jvm.Cond.and given_1 narrow_1)
def stK : List Nat := [61, 63, 69, 71, 74, 76, 79, 82, 85, 88, 90, 93, 95, 98, 101, 103]
abbrev tmS (i : Nat) : Term := .string RX10 (stK.getD i 0)
theorem st_str {s : State} {args : Array Value} {A : Nat → Prop} (hs : ∀ w ∈ NW, w.before args s = true) (hA : ∀ a : Nat, a < s.heap.size → ¬ A a) : ∃ adK adV : Nat → Nat, vk_S 16 stL stB adK adV A s s.heap ∧ ∀ i : Nat, i < 16 → (tmS i).eval args s none [] s = some (.ref (adK i)) := by
  have hN : ∀ i : Nat, i < 16 → stL.getD i 0 < 2 ^ 31 := by decide +kernel
  have hex : ∀ i : Nat, i < 16 → Cond.exactly (tmS i) "java/lang/String" ∈ NW := by decide +kernel
  have hco : ∀ i : Nat, i < 16 → Cond.eq (.field (tmS i) "java/lang/String" "coder" "B") (.int 0) ∈ NW := by decide +kernel
  have har : ∀ i : Nat, i < 16 → Cond.arrayOf (.field (tmS i) "java/lang/String" "value" "[B") .byte ∈ NW := by decide +kernel
  have hle : ∀ i : Nat, i < 16 → Cond.eq (.length (.field (tmS i) "java/lang/String" "value" "[B")) (.int (Int32.ofNat (stL.getD i 0))) ∈ NW := by decide +kernel
  have hel : ∀ i : Nat, i < 16 → ∀ j : Nat, j < stL.getD i 0 → Cond.eq (.elem (.field (tmS i) "java/lang/String" "value" "[B") (.int (Int32.ofNat j))) (.int ((stB.getD i []).getD j 0)) ∈ NW := by decide +kernel
  have h0 : ∀ i : Nat, ∃ q : Nat × Nat, i < 16 → (tmS i).eval args s none [] s = some (.ref q.1) ∧ va_O "java/lang/String" q.1 A s s.heap ∧ va_OF "java/lang/String" "coder" "B" (.int 0) q.1 A s s.heap ∧ va_OF "java/lang/String" "value" "[B" (.ref q.2) q.1 A s s.heap ∧ va_T .byte q.2 (stL.getD i 0) (fun j => .int ((stB.getD i []).getD j 0)) A s s.heap := by
    intro i
    by_cases hi : i < 16
    · obtain ⟨a, c, cA, kA, q1, q2, q3, q4, q5, q6, -⟩ := Cond.exactly_spec (args := args) (first := s) (o := none) (s := s) (idx := []) (t := tmS i) (cls := "java/lang/String") (hs _ (hex i hi))
      obtain ⟨t, ht, hT⟩ := va_Tof (f := fun j => .int ((stB.getD i []).getD j 0)) (A := A) (hN i hi) (hs _ (har i hi)) (va_eqt (hs _ (hle i hi))) (fun j hj => va_eqt (hs _ (hel i hi j hj))) hA
      exact ⟨(a, t), fun _ => ⟨q1, ⟨cA, q3, q5, by rw [q6]; exact q2, hA a (Array.getElem?_eq_some_iff.mp q3).1⟩, vk_OFof q1 (va_eqt (hs _ (hco i hi))) hA, vk_OFof q1 ht hA, hT⟩⟩
    · exact ⟨(0, 0), fun h => absurd h hi⟩
  obtain ⟨ad, had⟩ := Classical.axiomOfChoice h0
  refine ⟨fun i => (ad i).1, fun i => (ad i).2, ⟨fun i hi => (had i hi).2, fun i j hi hj e => ?_⟩, fun i hi => (had i hi).1⟩
  obtain ⟨-, -, -, ⟨cf, k, z, fd, cell, a1, a2, a3, a4, a5, a6⟩, t1, b1, b2, b3, b4, b5, b6, b7⟩ := had i hi
  obtain ⟨-, -, -, ⟨cf', k', z', fd', cell', c1, c2, c3, c4, c5, c6⟩, t2, d1, d2, d3, d4, d5, d6, d7⟩ := had j hj
  have e : (ad i).1 = (ad j).1 := e
  rw [c1] at a1
  cases a1
  rw [e, c3] at a3
  cases a3
  rw [c5] at a5
  have e2 : (ad i).2 = (ad j).2 := by cases a5; rfl
  rw [e2, d1] at b1
  cases b1
  have hl : stL.getD i 0 = stL.getD j 0 := by
    have h1 : nI (stL.getD i 0) = nI (stL.getD j 0) := b5.symm.trans d5
    exact (nI_eq (hN i hi) (hN j hj)).mp h1
  have hb : ∀ m, m < stL.getD i 0 → (stB.getD i []).getD m 0 = (stB.getD j []).getD m 0 := fun m hm => by
    have h1 := (b6 m hm).symm.trans (d6 m (by rw [← hl]; exact hm))
    have h2 := Option.some.inj h1
    exact Value.int.inj h2
  have key : ∀ i, i < 16 → ∀ j, j < 16 → stL.getD i 0 = stL.getD j 0 → (∀ m, m < stL.getD i 0 → (stB.getD i []).getD m 0 = (stB.getD j []).getD m 0) → i = j := by decide +kernel
  exact key i hi j hj hl hb
theorem st_env {s : State} {b : Nat} (hts : ∀ w ∈ lw_tbl, w.before #[Value.ref b] s = true) (hgv : (Jvm.Cond.and given_1 narrow_1).before #[Value.ref b] s = true) : ∃ (dC : Nat → ClassId) (dI : Nat → Nat → Nat) (g : Nat → ClassId), EK dC dI g s ∧ EX g (fun q : Nat => s.heap.size ≤ q) s s.heap := by
  have hU := st_U hts
  have hs : ∀ w ∈ NW, w.before #[Value.ref b] s = true := flat_of_before _ hgv
  have hA : ∀ a : Nat, a < s.heap.size → ¬ (fun q : Nat => s.heap.size ≤ q) a := fun a h => Nat.not_le.mpr h
  obtain ⟨dC, dI, hK⟩ := st_K hU
  obtain ⟨c0, x0, y0⟩ := st_arr (ty := .int) (hts _ (mT (mT1 (List.mem_of_getElem? (i := 70) rfl))))
  obtain ⟨c1, x1, y1⟩ := st_arr (ty := .char) (hts _ (mT (mT2 (List.mem_of_getElem? (i := 22) rfl))))
  obtain ⟨c5, x5, y5⟩ := st_arr (ty := .byte) (hts _ (mT (mT2 (List.mem_of_getElem? (i := 71) rfl))))
  obtain ⟨c6, x6, y6⟩ := st_arr (ty := .long) (hts _ (mT (mT10 (List.mem_of_getElem? (i := 48) rfl))))
  obtain ⟨c7, x7, y7⟩ := st_arr (ty := .double) (hts _ (mT (mT10 (List.mem_of_getElem? (i := 49) rfl))))
  have o2 : (Cond.arrayOver (.object RX11)).before #[Value.ref b] s = true := hts _ (mT (mT1 (List.mem_of_getElem? (i := 201) rfl)))
  have o3 : (Cond.arrayOver (.object RX2)).before #[Value.ref b] s = true := hts _ (mT (mT1 (List.mem_of_getElem? (i := 235) rfl)))
  obtain ⟨c2, x2, y2⟩ := st_over o2
  obtain ⟨c3, x3, y3⟩ := st_over o3
  have hex0 : ∀ i : Nat, ∃ a : Nat, i < 10 → (Term.static RX10 (vbN.getD i "") "LWireCutter$Verb;").eval #[Value.ref b] s none [] s = some (.ref a) ∧ va_O RX10 a (fun q : Nat => s.heap.size ≤ q) s s.heap := by
    intro i
    by_cases hi : i < 10
    · obtain ⟨a, c, cA, kA, q1, q2, q3, q4, q5, q6, -⟩ := Cond.exactly_spec (args := #[Value.ref b]) (first := s) (o := none) (s := s) (idx := []) (t := .static RX10 (vbN.getD i "") "LWireCutter$Verb;") (cls := RX10) (hs _ ((by decide +kernel : ∀ i, i < 10 → Cond.exactly (.static RX10 (vbN.getD i "") "LWireCutter$Verb;") RX10 ∈ NW) i hi))
      exact ⟨a, fun _ => ⟨q1, cA, q3, q5, by rw [q6]; exact q2, hA a (Array.getElem?_eq_some_iff.mp q3).1⟩⟩
    · exact ⟨0, fun h => absurd h hi⟩
  obtain ⟨ad, had⟩ := Classical.axiomOfChoice hex0
  have hev : ∀ i, i < 10 → (Term.static RX10 (vbN.getD i "") "LWireCutter$Verb;").eval #[Value.ref b] s none [] s = some (.ref (ad i)) := fun i hi => (had i hi).1
  have hOr := va_Efof (s := s) (N := 10) (E := RX10) (d0 := "LWireCutter$Verb;") (o := "java/lang/Enum") (n := "ordinal") (d := "I") (nm := vbN) (v := fun i => .int (([0, 1, 2, 3, 4, 5, 6, 7, 8, 9] : List Int32).getD i 0)) (tm := fun i => .int (([0, 1, 2, 3, 4, 5, 6, 7, 8, 9] : List Int32).getD i 0)) (ad := ad) (A := fun q : Nat => s.heap.size ≤ q) hev (fun i hi => hs _ ((by decide +kernel : ∀ i, i < 10 → Cond.eq (.field (.static RX10 (vbN.getD i "") "LWireCutter$Verb;") "java/lang/Enum" "ordinal" "I") (.int (([0, 1, 2, 3, 4, 5, 6, 7, 8, 9] : List Int32).getD i 0)) ∈ NW) i hi)) (fun i hi => rfl) hA
  obtain ⟨adK, adV, hS, hSe⟩ := st_str hs hA
  obtain ⟨v20, e20, h20⟩ := va_Tof (tm := .static RX12 "VERBS" "[LWireCutter$Verb;") (ty := .object RX10) (N := 10) (f := fun i => .ref (ad i)) (A := fun q : Nat => s.heap.size ≤ q) (by decide) (hs _ (by decide +kernel)) (va_eqt (hs _ (by decide +kernel))) (fun j hj => va_eqv (hs _ ((by decide +kernel : ∀ j, j < 10 → Cond.eq (.elem (.static RX12 "VERBS" "[LWireCutter$Verb;") (.int (Int32.ofNat j))) (.static RX10 (vbN.getD j "") "LWireCutter$Verb;") ∈ NW) j hj)) (hev j hj)) hA
  obtain ⟨v21, e21, h21⟩ := va_Tof (tm := .static RX0 "$SwitchMap$WireCutter$Verb" "[I") (ty := .int) (N := 10) (f := fun i => .int (Int32.ofNat (i + 1))) (A := fun q : Nat => s.heap.size ≤ q) (by decide) (hs _ (by decide +kernel)) (va_eqt (hs _ (by decide +kernel))) (fun j hj => va_eqt (hs _ ((by decide +kernel : ∀ j, j < 10 → Cond.eq (.elem (.static RX0 "$SwitchMap$WireCutter$Verb" "[I") (.int (Int32.ofNat j))) (.int (Int32.ofNat (j + 1))) ∈ NW) j hj))) hA
  obtain ⟨v22, e22, h22⟩ := va_Tof (tm := .static "java/lang/Integer" "DigitOnes" "[B") (ty := .byte) (N := 100) (f := fun i => .int (dOnes i)) (A := fun q : Nat => s.heap.size ≤ q) (by decide) (hs _ (by decide +kernel)) (va_eqt (hs _ (by decide +kernel))) (fun j hj => va_eqt (hs _ ((by decide +kernel : ∀ j, j < 100 → Cond.eq (.elem (.static "java/lang/Integer" "DigitOnes" "[B") (.int (Int32.ofNat j))) (.int (dOnes j)) ∈ NW) j hj))) hA
  obtain ⟨v23, e23, h23⟩ := va_Tof (tm := .static "java/lang/Integer" "DigitTens" "[B") (ty := .byte) (N := 100) (f := fun i => .int (dTens i)) (A := fun q : Nat => s.heap.size ≤ q) (by decide) (hs _ (by decide +kernel)) (va_eqt (hs _ (by decide +kernel))) (fun j hj => va_eqt (hs _ ((by decide +kernel : ∀ j, j < 100 → Cond.eq (.elem (.static "java/lang/Integer" "DigitTens" "[B") (.int (Int32.ofNat j))) (.int (dTens j)) ∈ NW) j hj))) hA
  have hW := va_Efof (s := s) (N := 10) (E := RX10) (d0 := "LWireCutter$Verb;") (o := RX10) (n := "word") (d := "Ljava/lang/String;") (nm := vbN) (v := fun i => .ref (adK (wIx.getD i 0))) (tm := fun i => tmS (wIx.getD i 0)) (ad := ad) (A := fun q : Nat => s.heap.size ≤ q) hev (fun i hi => hs _ ((by decide +kernel : ∀ i, i < 10 → Cond.eq (.field (.static RX10 (vbN.getD i "") "LWireCutter$Verb;") RX10 "word" "Ljava/lang/String;") (tmS (wIx.getD i 0)) ∈ NW) i hi)) (fun i hi => hSe _ ((by decide : ∀ i, i < 10 → wIx.getD i 0 < 16) i hi)) hA
  have hPt := va_Efof (s := s) (N := 10) (E := RX10) (d0 := "LWireCutter$Verb;") (o := RX10) (n := "parts") (d := "Ljava/lang/String;") (nm := vbN) (v := fun i => .ref (adK (pIx.getD i 0))) (tm := fun i => tmS (pIx.getD i 0)) (ad := ad) (A := fun q : Nat => s.heap.size ≤ q) hev (fun i hi => hs _ ((by decide +kernel : ∀ i, i < 10 → Cond.eq (.field (.static RX10 (vbN.getD i "") "LWireCutter$Verb;") RX10 "parts" "Ljava/lang/String;") (tmS (pIx.getD i 0)) ∈ NW) i hi)) (fun i hi => hSe _ ((by decide : ∀ i, i < 10 → pIx.getD i 0 < 16) i hi)) hA
  have zV := va_Zref (hts _ (mT (mT7 (List.mem_of_getElem? (i := 85) rfl)))) (hts _ (mT (mT1 (List.mem_of_getElem? (i := 1) rfl)))) e20 hA
  have zM := va_Zref (hts _ (mT (mT7 (List.mem_of_getElem? (i := 166) rfl)))) (hts _ (mT (mT1 (List.mem_of_getElem? (i := 36) rfl)))) e21 hA
  have zO := va_Zref (hts _ (mT (mT3 (List.mem_of_getElem? (i := 176) rfl)))) (hts _ (mT (mT1 (List.mem_of_getElem? (i := 34) rfl)))) e22 hA
  have zT := va_Zref (hts _ (mT (mT3 (List.mem_of_getElem? (i := 178) rfl)))) (hts _ (mT (mT1 (List.mem_of_getElem? (i := 34) rfl)))) e23 hA
  have zC := va_Zof (A := fun q : Nat => s.heap.size ≤ q) (hts _ (mT (mT2 (List.mem_of_getElem? (i := 49) rfl)))) (hts _ (mT (mT1 (List.mem_of_getElem? (i := 14) rfl)))) (va_eqi (hs _ (by decide +kernel))) hA
  have zP := va_Zqof (A := fun q : Nat => s.heap.size ≤ q) (hts _ (mT (mT3 (List.mem_of_getElem? (i := 106) rfl)))) (hts _ (mT (mT1 (List.mem_of_getElem? (i := 31) rfl)))) (hs _ (by decide +kernel)) hA
  have zU := vx_Zqof (A := fun q : Nat => s.heap.size ≤ q) (hts _ (mT (mT4 (List.mem_of_getElem? (i := 10) rfl)))) (hts _ (mT (mT1 (List.mem_of_getElem? (i := 17) rfl)))) (hs _ (by decide +kernel)) hA
  have zS := vx_Zqof (A := fun q : Nat => s.heap.size ≤ q) (hts _ (mT (mT4 (List.mem_of_getElem? (i := 12) rfl)))) (hts _ (mT (mT1 (List.mem_of_getElem? (i := 17) rfl)))) (hs _ (by decide +kernel)) hA
  have hR : ER s := by
    refine ⟨fun q hq => ?_, fun q hq => va_Nc.of (hs _ ((by decide +kernel : ∀ q ∈ lw_C, Cond.not (.castable q.1 q.2) ∈ NW) q hq)), va_AO.of o2, va_AO.of o3⟩
    obtain ⟨a, c, cA, kA, q1, -⟩ := Cond.exactly_spec (args := #[Value.ref b]) (first := s) (o := none) (s := s) (idx := []) (t := .string q.1 q.2.1) (cls := "java/lang/String") (hs _ ((by decide +kernel : ∀ q ∈ lw_S, Cond.exactly (.string q.1 q.2.1) "java/lang/String" ∈ NW) q hq))
    exact ⟨a, vk_R.of (A := #[Value.ref b]) (hts _ (mT ((by decide +kernel : ∀ q ∈ lw_S, Cond.stringRef q.1 q.2.1 q.2.2 ∈ tables_1) q hq))) q1⟩
  let g : Nat → ClassId := fun n => if n = 0 then c0 else if n = 1 then c1 else if n = 2 then c2 else if n = 3 then c3 else if n = 4 then c0 else if n = 5 then c5 else if n = 6 then c6 else if n = 7 then c7 else if n = 20 then v20 else if n = 21 then v21 else if n = 22 then v22 else if n = 23 then v23 else if n < 200 then ad (n - 100) else if n < 300 then adK (n - 200) else adV (n - 300)
  have gK : ∀ i, i < 16 → g (200 + i) = adK i := fun i hi => by
    show (if 200 + i = 0 then _ else _) = _
    simp only [show ¬ 200 + i = 0 by omega, show ¬ 200 + i = 1 by omega, show ¬ 200 + i = 2 by omega, show ¬ 200 + i = 3 by omega, show ¬ 200 + i = 4 by omega, show ¬ 200 + i = 5 by omega, show ¬ 200 + i = 6 by omega, show ¬ 200 + i = 7 by omega, show ¬ 200 + i = 20 by omega, show ¬ 200 + i = 21 by omega, show ¬ 200 + i = 22 by omega, show ¬ 200 + i = 23 by omega, show ¬ 200 + i < 200 by omega, show 200 + i < 300 by omega, if_false, if_true, Nat.add_sub_cancel_left]
  have gV : ∀ i, i < 16 → g (300 + i) = adV i := fun i hi => by
    show (if 300 + i = 0 then _ else _) = _
    simp only [show ¬ 300 + i = 0 by omega, show ¬ 300 + i = 1 by omega, show ¬ 300 + i = 2 by omega, show ¬ 300 + i = 3 by omega, show ¬ 300 + i = 4 by omega, show ¬ 300 + i = 5 by omega, show ¬ 300 + i = 6 by omega, show ¬ 300 + i = 7 by omega, show ¬ 300 + i = 20 by omega, show ¬ 300 + i = 21 by omega, show ¬ 300 + i = 22 by omega, show ¬ 300 + i = 23 by omega, show ¬ 300 + i < 200 by omega, show ¬ 300 + i < 300 by omega, if_false, Nat.add_sub_cancel_left]
  have gA : ∀ i, i < 10 → g (100 + i) = ad i := fun i hi => by
    show (if 100 + i = 0 then _ else _) = _
    simp only [show ¬ 100 + i = 0 by omega, show ¬ 100 + i = 1 by omega, show ¬ 100 + i = 2 by omega, show ¬ 100 + i = 3 by omega, show ¬ 100 + i = 4 by omega, show ¬ 100 + i = 5 by omega, show ¬ 100 + i = 6 by omega, show ¬ 100 + i = 7 by omega, show ¬ 100 + i = 20 by omega, show ¬ 100 + i = 21 by omega, show ¬ 100 + i = 22 by omega, show ¬ 100 + i = 23 by omega, show 100 + i < 200 by omega, if_false, if_true, Nat.add_sub_cancel_left]
  refine ⟨dC, dI, g, ⟨⟨hK, fun k q hk => ?_⟩, st_N hts⟩, ⟨zU, zS, ?_, zV, ?_, ?_, ?_, ?_, zM, h21, zC, zO, h22, zT, h23, zP⟩, hR⟩
  · match k, hk with
    | 0, hk => cases hk; exact ⟨x0, y0⟩
    | 1, hk => cases hk; exact ⟨x1, y1⟩
    | 2, hk => cases hk; exact ⟨x2, y2⟩
    | 3, hk => cases hk; exact ⟨x3, y3⟩
    | 4, hk => cases hk; exact ⟨x0, y0⟩
    | 5, hk => cases hk; exact ⟨x5, y5⟩
    | 6, hk => cases hk; exact ⟨x6, y6⟩
    | 7, hk => cases hk; exact ⟨x7, y7⟩
    | k + 8, hk => exact absurd hk (by simp)
  · refine ⟨fun i hi => ?_, fun i hi => ?_⟩
    · rw [gA i hi]; exact (had i hi).2
    · rw [gA i hi]; exact hOr i hi
  · obtain ⟨cell, z1, z2, z3, z4, z5, z6, z7⟩ := h20
    exact ⟨cell, z1, z2, z3, z4, z5, fun j hj => by rw [gA j hj]; exact z6 j hj, z7⟩
  · intro i hi
    rw [gA i hi, gK _ ((by decide : ∀ i, i < 10 → wIx.getD i 0 < 16) i hi)]
    exact hW i hi
  · intro i hi
    rw [gA i hi, gK _ ((by decide : ∀ i, i < 10 → pIx.getD i 0 < 16) i hi)]
    exact hPt i hi
  · refine ⟨fun i hi => ?_, fun i j hi hj e => ?_⟩
    · rw [gK i hi, gV i hi]; exact hS.1 i hi
    · exact hS.2 i j hi hj (by rw [← gK i hi, ← gK j hj]; exact e)
