theorem inJ0 : ∀ w ∈ wsJ00, w ∈ lw_U := by decide +kernel
theorem inJx00060 : ∀ w ∈ u_ws RJx00060 TJx00060 6, w ∈ lw_U := by decide +kernel
theorem inJx7c733 : ∀ w ∈ u_ws RJx7c733 TJx7c733 6, w ∈ lw_U := by decide +kernel
/-! the law's entry: what the Statement's premises give -/
theorem st_sub {C : String} {y x2 y2 : MethodName} {s : State} {args : Array Value} {n : Nat} (hy : y.cls ≠ "java/lang/invoke/MethodHandle" ∧ y.cls ≠ "java/lang/invoke/VarHandle") (hins : (Cond.instantiable C n).before args s = true) (hpriv : (Cond.privateMethod y).before args s = true) (hinst : (Cond.instanceMethod y).before args s = true) (hs2 : (Cond.selects C x2 y2).before args s = true) (hc2 : y2.cls = y.cls) : (Cond.selects C y y).before args s = true := by
  obtain ⟨-, -, m2, -, -, hm2, -, k2, hk2, hi2⟩ := Cond.selects_spec hs2
  obtain ⟨c, k, hc, hk, -, hniab, -, -⟩ := Cond.instantiable_spec hins
  obtain ⟨mk, methM, hnamed, hmethM, -, -⟩ := Cond.instanceMethod_spec hinst
  have hfound : s.methodFound? y.cls y.name y.desc = some mk := State.methodFound?_of_named hnamed hy
  have hsel : selectMethod {} s.vm c mk = .method mk := selectMethod_private hmethM (Cond.privateMethod_at hpriv mk methM hnamed hmethM)
  simp only [Cond.before, Cond.holds, Cond.value, hc, hfound, hnamed, hsel, hk]
  have e := (findClass_of_methodNamed hm2).symm.trans (hc2 ▸ findClass_of_methodNamed hnamed)
  have e2 : m2.cls = mk.cls := Option.some.inj e
  rw [← e2, hk2]
  simp [hi2]
theorem st_U {s : State} {b : Nat} (hts : ∀ w ∈ lw_tbl, w.before #[Value.ref b] s = true) : ∀ w ∈ lw_U, w.before #[Value.ref b] s = true := by
  intro w hw
  rcases List.mem_append.mp (List.mem_filter.mp hw).1 with h | h
  · simp only [lw_X, List.mem_cons, List.not_mem_nil, or_false] at h
    rcases h with rfl | rfl
    · exact st_sub ⟨by decide +kernel, by decide +kernel⟩ (hts (Cond.instantiable RJ4 4) (mT (mT2 (List.mem_of_getElem? (i := 40) rfl)))) (hts _ (mT (mT3 (List.mem_of_getElem? (i := 54) rfl)))) (hts _ (mT (mT3 (List.mem_of_getElem? (i := 55) rfl)))) (hts (Cond.selects RJ4 yJ5_isLatin1_aae02 yJ5_isLatin1_aae02) (List.mem_of_getElem? (i := 653) (by decide +kernel))) rfl
    · exact st_sub ⟨by decide +kernel, by decide +kernel⟩ (hts (Cond.instantiable RJ4 4) (mT (mT2 (List.mem_of_getElem? (i := 40) rfl)))) (hts _ (mT (mT3 (List.mem_of_getElem? (i := 58) rfl)))) (hts _ (mT (mT3 (List.mem_of_getElem? (i := 59) rfl)))) (hts (Cond.selects RJ4 yJ5_isLatin1_aae02 yJ5_isLatin1_aae02) (List.mem_of_getElem? (i := 653) (by decide +kernel))) rfl
  · exact hts w h
theorem st_N {s : State} {b : Nat} (hts : ∀ w ∈ lw_tbl, w.before #[Value.ref b] s = true) : EN s := fun w hw => va_Nw.of (onN hw) (hts w (mT (List.mem_filter.mp hw).1))

theorem st_c {s : State} {args : Array Value} (hU : ∀ w ∈ lw_U, w.before args s = true) {C : String} {T : u_T} {N n : Nat} (hin : ∀ w ∈ u_ws C T N, w ∈ lw_U) (hi : (Cond.instantiable C n).before args s = true) : ∃ p : ClassId × (Nat → Nat), u_Kn s C T N p.1 p.2 := by
  obtain ⟨cC, iS, h⟩ := u_known hU hin hi
  exact ⟨(cC, iS), h⟩
theorem st_K {s : State} {args : Array Value} (hU : ∀ w ∈ lw_U, w.before args s = true) : ∃ (dC : Nat → ClassId) (dI : Nat → Nat → Nat), ∀ (c : Nat) (q : vw_C), vwCl[c]? = some q → u_Kn s q.1 q.2.1 q.2.2 (dC c) (dI c) := by
  have h : ∀ q ∈ vwCl, ∃ p : ClassId × (Nat → Nat), u_Kn s q.1 q.2.1 q.2.2 p.1 p.2 :=
    List.forall_mem_cons.mpr ⟨st_c hU inJ0 (hU _ q672), List.forall_mem_cons.mpr ⟨st_c hU inJ4 (hU _ q280), List.forall_mem_cons.mpr ⟨st_c hU inJx00060 (hU _ q828), List.forall_mem_cons.mpr ⟨st_c hU inJx7c733 (hU _ q515), List.forall_mem_cons.mpr ⟨st_c hU inX1 (hU _ q135), List.forall_mem_cons.mpr ⟨st_c hU inX2 (hU _ q236), List.forall_mem_cons.mpr ⟨st_c hU inX3 (hU _ q195), List.forall_mem_cons.mpr ⟨st_c hU inX4 (hU _ q214), List.forall_mem_cons.mpr ⟨st_c hU inX5 (hU _ q111), List.forall_mem_cons.mpr ⟨st_c hU inX6 (hU _ q229), List.forall_mem_cons.mpr ⟨st_c hU inX7 (hU _ q58), List.forall_mem_cons.mpr ⟨st_c hU inX8 (hU _ q88), List.forall_mem_cons.mpr ⟨st_c hU inX9 (hU _ q52), List.forall_mem_cons.mpr ⟨st_c hU inX11 (hU _ q46), List.forall_mem_cons.mpr ⟨st_c hU inX12 (hU _ q38), List.forall_mem_cons.mpr ⟨st_c hU inX13 (hU _ q1679), fun _ h9 => absurd h9 List.not_mem_nil⟩⟩⟩⟩⟩⟩⟩⟩⟩⟩⟩⟩⟩⟩⟩⟩
  have h0 : ∀ c : Nat, ∃ p : ClassId × (Nat → Nat), ∀ q : vw_C, vwCl[c]? = some q → u_Kn s q.1 q.2.1 q.2.2 p.1 p.2 := by
    intro c
    cases hq : vwCl[c]? with
    | none => exact ⟨(0, fun _ => 0), fun q h => by cases h⟩
    | some q =>
      obtain ⟨p, hp⟩ := h q (List.mem_of_getElem? hq)
      exact ⟨p, fun q' h => by cases h; exact hp⟩
  obtain ⟨f, hf⟩ := Classical.axiomOfChoice h0
  exact ⟨fun c => (f c).1, fun c => (f c).2, fun c q hq => hf c q hq⟩
theorem st_arr {s : State} {args : Array Value} {ty : FieldType} (h : (Cond.arrayClass ty).before args s = true) : ∃ c : ClassId, ArrOfT s c ty ∧ s.vm.findClass ("[" ++ ty.toString) = some c := by
  obtain ⟨c, k, comp, h1, h2, h3⟩ := Cond.arrayClass_spec (args := args) (first := s) (o := none) (s := s) (idx := []) h
  exact ⟨c, fun n z => ⟨(fun k h => by cases h), k, h2, comp, h3⟩, h1⟩
theorem st_over {s : State} {args : Array Value} {C : String} (h : (Cond.arrayOver (.object C)).before args s = true) : ∃ c : ClassId, ArrOfT s c (.object C) ∧ va_RA s c (.object C) := by
  obtain ⟨comp, c, k, h1, -, h3, h4, h5⟩ := Cond.arrayOver_spec (args := args) (first := s) (o := none) (s := s) (idx := []) h
  exact ⟨c, fun n z => ⟨(fun k h => by cases h), k, h3, comp, h4⟩, k, comp, h3, h4, h1, h5⟩
def NW : List Cond := flatC (Jvm.Cond.and given_1 narrow_1)
theorem nwF (ix : List Nat) (W : Nat → Cond) (n : Nat) (h : ∀ j, j < n → NW[ix.getD j 0]? = some (W j)) : ∀ j, j < n → W j ∈ NW := fun j hj => List.mem_of_getElem? (h j hj)
theorem nwL {α : Type} (ix : List Nat) (W : α → Cond) (l : List α) (h : ix.map (fun k => NW[k]?) = l.map (fun q => some (W q))) : ∀ q ∈ l, W q ∈ NW := by
  intro q hq
  have h1 : some (W q) ∈ l.map (fun q => some (W q)) := List.mem_map.mpr ⟨q, hq, rfl⟩
  rw [← h] at h1
  obtain ⟨k, -, hk⟩ := List.mem_map.mp h1
  exact List.mem_of_getElem? hk
theorem nwC : ∀ q ∈ lw_C, Cond.not (.castable q.1 q.2) ∈ NW := nwL [343, 344, 345, 366, 367, 389] (fun q => Cond.not (.castable q.1 q.2)) lw_C (by decide +kernel)
theorem nwS : ∀ q ∈ lw_S, Cond.exactly (.string q.1 q.2.1) "java/lang/String" ∈ NW := nwL [833, 849, 869, 889, 909, 922, 942, 965, 987, 1004, 1024, 1043, 1064, 1083, 609, 671, 732, 629, 652, 708, 754, 774, 795, 817, 688] (fun q => Cond.exactly (.string q.1 q.2.1) "java/lang/String") lw_S (by decide +kernel)
def stK : List Nat := [61, 63, 69, 71, 74, 76, 79, 82, 85, 88, 90, 93, 95, 98, 101, 103]
abbrev tmS (i : Nat) : Term := .string RX10 (stK.getD i 0)
theorem st_str {s : State} {args : Array Value} {A : Nat → Prop} (hs : ∀ w ∈ NW, w.before args s = true) (hA : ∀ a : Nat, a < s.heap.size → ¬ A a) : ∃ adK adV : Nat → Nat, vk_S 16 stL stB adK adV A s s.heap ∧ ∀ i : Nat, i < 16 → (tmS i).eval args s none [] s = some (.ref (adK i)) := by
  have hN : ∀ i : Nat, i < 16 → stL.getD i 0 < 2 ^ 31 := by decide +kernel
  have hex : ∀ i : Nat, i < 16 → Cond.exactly (tmS i) "java/lang/String" ∈ NW := nwF [1101, 1111, 1117, 1127, 1135, 1146, 1151, 1160, 1168, 1179, 1189, 1194, 1203, 1208, 1218, 1227] (fun i => Cond.exactly (tmS i) "java/lang/String") 16 (by decide +kernel)
  have hco : ∀ i : Nat, i < 16 → Cond.eq (.field (tmS i) "java/lang/String" "coder" "B") (.int 0) ∈ NW := nwF [1102, 1112, 1118, 1128, 1136, 1147, 1152, 1161, 1169, 1180, 1190, 1195, 1204, 1209, 1219, 1228] (fun i => Cond.eq (.field (tmS i) "java/lang/String" "coder" "B") (.int 0)) 16 (by decide +kernel)
  have har : ∀ i : Nat, i < 16 → Cond.arrayOf (.field (tmS i) "java/lang/String" "value" "[B") .byte ∈ NW := nwF [1103, 1113, 1119, 1129, 1137, 1148, 1153, 1162, 1170, 1181, 1191, 1196, 1205, 1210, 1220, 1229] (fun i => Cond.arrayOf (.field (tmS i) "java/lang/String" "value" "[B") .byte) 16 (by decide +kernel)
  have hle : ∀ i : Nat, i < 16 → Cond.eq (.length (.field (tmS i) "java/lang/String" "value" "[B")) (.int (Int32.ofNat (stL.getD i 0))) ∈ NW := nwF [1104, 1114, 1120, 1130, 1138, 1149, 1154, 1163, 1171, 1182, 1192, 1197, 1206, 1211, 1221, 1230] (fun i => Cond.eq (.length (.field (tmS i) "java/lang/String" "value" "[B")) (.int (Int32.ofNat (stL.getD i 0)))) 16 (by decide +kernel)
  have hel : ∀ i : Nat, i < 16 → ∀ j : Nat, j < stL.getD i 0 → Cond.eq (.elem (.field (tmS i) "java/lang/String" "value" "[B") (.int (Int32.ofNat j))) (.int ((stB.getD i []).getD j 0)) ∈ NW := fun i hi j hj => List.mem_of_getElem? (i := (([[1105, 1106, 1107, 1108, 1109, 1110], [1115, 1116], [1121, 1122, 1123, 1124, 1125, 1126], [1131, 1132, 1133, 1134], [1139, 1140, 1141, 1142, 1143, 1144, 1145], [1150], [1155, 1156, 1157, 1158, 1159], [1164, 1165, 1166, 1167], [1172, 1173, 1174, 1175, 1176, 1177, 1178], [1183, 1184, 1185, 1186, 1187, 1188], [1193], [1198, 1199, 1200, 1201, 1202], [1207], [1212, 1213, 1214, 1215, 1216, 1217], [1222, 1223, 1224, 1225, 1226], [1231]] : List (List Nat)).getD i []).getD j 0) ((by decide +kernel : ∀ i, i < 16 → ∀ j, j < stL.getD i 0 → NW[(([[1105, 1106, 1107, 1108, 1109, 1110], [1115, 1116], [1121, 1122, 1123, 1124, 1125, 1126], [1131, 1132, 1133, 1134], [1139, 1140, 1141, 1142, 1143, 1144, 1145], [1150], [1155, 1156, 1157, 1158, 1159], [1164, 1165, 1166, 1167], [1172, 1173, 1174, 1175, 1176, 1177, 1178], [1183, 1184, 1185, 1186, 1187, 1188], [1193], [1198, 1199, 1200, 1201, 1202], [1207], [1212, 1213, 1214, 1215, 1216, 1217], [1222, 1223, 1224, 1225, 1226], [1231]] : List (List Nat)).getD i []).getD j 0]? = some (Cond.eq (.elem (.field (tmS i) "java/lang/String" "value" "[B") (.int (Int32.ofNat j))) (.int ((stB.getD i []).getD j 0)))) i hi j hj)
  have h0 : ∀ i : Nat, ∃ q : Nat × Nat, i < 16 → (tmS i).eval args s none [] s = some (.ref q.1) ∧ va_O "java/lang/String" q.1 A s s.heap ∧ va_OF "java/lang/String" "coder" "B" (.int 0) q.1 A s s.heap ∧ va_OF "java/lang/String" "value" "[B" (.ref q.2) q.1 A s s.heap ∧ va_T .byte q.2 (stL.getD i 0) (fun j => .int ((stB.getD i []).getD j 0)) A s s.heap := by
    intro i
    by_cases hi : i < 16
    · obtain ⟨a, c, cA, kA, q1, q2, q3, q4, q5, q6, -⟩ := Cond.exactly_spec (args := args) (first := s) (o := none) (s := s) (idx := []) (t := tmS i) (cls := "java/lang/String") (hs _ (hex i hi))
      obtain ⟨t, ht, hT⟩ := va_Tof (f := fun j => .int ((stB.getD i []).getD j 0)) (A := A) (hN i hi) (hs _ (har i hi)) (va_eqt (hs _ (hle i hi))) (fun j hj => va_eqt (hs _ (hel i hi j hj))) hA
      exact ⟨(a, t), fun _ => ⟨q1, ⟨cA, q3, q5, by rw [q6]; exact q2, hA a (Array.getElem?_eq_some_iff.mp q3).1⟩, vk_OFof q1 (va_eqt (hs _ (hco i hi))) hA, vk_OFof q1 ht hA, hT⟩⟩
    · exact ⟨(0, 0), fun h => absurd h hi⟩
  obtain ⟨ad, had⟩ := Classical.axiomOfChoice h0
  refine ⟨fun i => (ad i).1, fun i => (ad i).2, ⟨fun i hi => (had i hi).2, fun i j hi hj e => ?_⟩, fun i hi => (had i hi).1⟩
  obtain ⟨-, -, -, ⟨cf, k, z, fd, cell, a1, a2, a3, a4, a5, a6⟩, t1, b1, b2, b3, b4, b5, b6, b7⟩ := had i hi
  obtain ⟨-, -, -, ⟨cf', k', z', fd', cell', c1, c2, c3, c4, c5, c6⟩, t2, d1, d2, d3, d4, d5, d6, d7⟩ := had j hj
  have e : (ad i).1 = (ad j).1 := e
  rw [c1] at a1
  cases a1
  rw [e, c3] at a3
  cases a3
  rw [c5] at a5
  have e2 : (ad i).2 = (ad j).2 := by first | exact (Value.ref.inj a5).symm | exact (Value.ref.inj (Option.some.inj a5)).symm | (simp at a5; exact a5.symm) | (simp at a5; exact a5)
  rw [e2, d1] at b1
  cases b1
  have hl : stL.getD i 0 = stL.getD j 0 := by
    have h1 : nI (stL.getD i 0) = nI (stL.getD j 0) := b5.symm.trans d5
    exact (nI_eq (hN i hi) (hN j hj)).mp h1
  have hb : ∀ m, m < stL.getD i 0 → (stB.getD i []).getD m 0 = (stB.getD j []).getD m 0 := fun m hm => by
    have h1 := (b6 m hm).symm.trans (d6 m (by rw [← hl]; exact hm))
    have h2 := Option.some.inj h1
    exact Value.int.inj h2
  have key : ∀ i, i < 16 → ∀ j, j < 16 → stL.getD i 0 = stL.getD j 0 → (∀ m, m < stL.getD i 0 → (stB.getD i []).getD m 0 = (stB.getD j []).getD m 0) → i = j := by decide +kernel
  exact key i hi j hj hl hb
theorem st_env {s : State} {b : Nat} (hts : ∀ w ∈ lw_tbl, w.before #[Value.ref b] s = true) (hgv : (Jvm.Cond.and given_1 narrow_1).before #[Value.ref b] s = true) : ∃ (dC : Nat → ClassId) (dI : Nat → Nat → Nat) (g : Nat → ClassId), EK dC dI g s ∧ EX g (fun q : Nat => s.heap.size ≤ q) s s.heap := by
  have hU := st_U hts
  have hs : ∀ w ∈ NW, w.before #[Value.ref b] s = true := flat_of_before _ hgv
  have hA : ∀ a : Nat, a < s.heap.size → ¬ (fun q : Nat => s.heap.size ≤ q) a := fun a h => Nat.not_le.mpr h
  obtain ⟨dC, dI, hK⟩ := st_K hU
  obtain ⟨c0, x0, y0⟩ := st_arr (ty := .int) (hts _ (mT (mT1 (List.mem_of_getElem? (i := 70) rfl))))
  obtain ⟨c1, x1, y1⟩ := st_arr (ty := .char) (hts _ (mT (mT2 (List.mem_of_getElem? (i := 22) rfl))))
  obtain ⟨c5, x5, y5⟩ := st_arr (ty := .byte) (hts _ (mT (mT2 (List.mem_of_getElem? (i := 71) rfl))))
  obtain ⟨c6, x6, y6⟩ := st_arr (ty := .long) (hts _ (mT (mT10 (List.mem_of_getElem? (i := 48) rfl))))
  obtain ⟨c7, x7, y7⟩ := st_arr (ty := .double) (hts _ (mT (mT10 (List.mem_of_getElem? (i := 49) rfl))))
  have o2 : (Cond.arrayOver (.object RX11)).before #[Value.ref b] s = true := hts _ (mT (mT1 (List.mem_of_getElem? (i := 201) rfl)))
  have o3 : (Cond.arrayOver (.object RX2)).before #[Value.ref b] s = true := hts _ (mT (mT1 (List.mem_of_getElem? (i := 235) rfl)))
  obtain ⟨c2, x2, y2⟩ := st_over o2
  obtain ⟨c3, x3, y3⟩ := st_over o3
  have hex0 : ∀ i : Nat, ∃ a : Nat, i < 10 → (Term.static RX10 (vbN.getD i "") "LWireCutter$Verb;").eval #[Value.ref b] s none [] s = some (.ref a) ∧ va_O RX10 a (fun q : Nat => s.heap.size ≤ q) s s.heap := by
    intro i
    by_cases hi : i < 10
    · obtain ⟨a, c, cA, kA, q1, q2, q3, q4, q5, q6, -⟩ := Cond.exactly_spec (args := #[Value.ref b]) (first := s) (o := none) (s := s) (idx := []) (t := .static RX10 (vbN.getD i "") "LWireCutter$Verb;") (cls := RX10) (hs _ ((nwF [245, 249, 254, 260, 267, 275, 284, 294, 305, 317] (fun i => Cond.exactly (.static RX10 (vbN.getD i "") "LWireCutter$Verb;") RX10) 10 (by decide +kernel)) i hi))
      exact ⟨a, fun _ => ⟨q1, cA, q3, q5, by rw [q6]; exact q2, hA a (Array.getElem?_eq_some_iff.mp q3).1⟩⟩
    · exact ⟨0, fun h => absurd h hi⟩
  obtain ⟨ad, had⟩ := Classical.axiomOfChoice hex0
  have hev : ∀ i, i < 10 → (Term.static RX10 (vbN.getD i "") "LWireCutter$Verb;").eval #[Value.ref b] s none [] s = some (.ref (ad i)) := fun i hi => (had i hi).1
  have hOr := va_Efof (s := s) (N := 10) (E := RX10) (d0 := "LWireCutter$Verb;") (o := "java/lang/Enum") (n := "ordinal") (d := "I") (nm := vbN) (v := fun i => .int (([0, 1, 2, 3, 4, 5, 6, 7, 8, 9] : List Int32).getD i 0)) (tm := fun i => .int (([0, 1, 2, 3, 4, 5, 6, 7, 8, 9] : List Int32).getD i 0)) (ad := ad) (A := fun q : Nat => s.heap.size ≤ q) hev (fun i hi => hs _ ((nwF [246, 250, 255, 261, 268, 276, 285, 295, 306, 318] (fun i => Cond.eq (.field (.static RX10 (vbN.getD i "") "LWireCutter$Verb;") "java/lang/Enum" "ordinal" "I") (.int (([0, 1, 2, 3, 4, 5, 6, 7, 8, 9] : List Int32).getD i 0))) 10 (by decide +kernel)) i hi)) (fun i hi => rfl) hA
  obtain ⟨adK, adV, hS, hSe⟩ := st_str hs hA
  obtain ⟨v20, e20, h20⟩ := va_Tof (tm := .static RX12 "VERBS" "[LWireCutter$Verb;") (ty := .object RX10) (N := 10) (f := fun i => .ref (ad i)) (A := fun q : Nat => s.heap.size ≤ q) (by decide) (hs _ (List.mem_of_getElem? (i := 219) (by decide +kernel))) (va_eqt (hs _ (List.mem_of_getElem? (i := 220) (by decide +kernel)))) (fun j hj => va_eqv (hs _ ((nwF [222, 223, 224, 225, 226, 227, 228, 229, 230, 231] (fun j => Cond.eq (.elem (.static RX12 "VERBS" "[LWireCutter$Verb;") (.int (Int32.ofNat j))) (.static RX10 (vbN.getD j "") "LWireCutter$Verb;")) 10 (by decide +kernel)) j hj)) (hev j hj)) hA
  obtain ⟨v21, e21, h21⟩ := va_Tof (tm := .static RX0 "$SwitchMap$WireCutter$Verb" "[I") (ty := .int) (N := 10) (f := fun i => .int (Int32.ofNat (i + 1))) (A := fun q : Nat => s.heap.size ≤ q) (by decide) (hs _ (List.mem_of_getElem? (i := 233) (by decide +kernel))) (va_eqt (hs _ (List.mem_of_getElem? (i := 234) (by decide +kernel)))) (fun j hj => va_eqt (hs _ ((nwF [235, 236, 237, 238, 239, 240, 241, 242, 243, 244] (fun j => Cond.eq (.elem (.static RX0 "$SwitchMap$WireCutter$Verb" "[I") (.int (Int32.ofNat j))) (.int (Int32.ofNat (j + 1)))) 10 (by decide +kernel)) j hj))) hA
  obtain ⟨v22, e22, h22⟩ := va_Tof (tm := .static "java/lang/Integer" "DigitOnes" "[B") (ty := .byte) (N := 100) (f := fun i => .int (dOnes i)) (A := fun q : Nat => s.heap.size ≤ q) (by decide) (hs _ (List.mem_of_getElem? (i := 10) (by decide +kernel))) (va_eqt (hs _ (List.mem_of_getElem? (i := 11) (by decide +kernel)))) (fun j hj => va_eqt (hs _ ((nwF [12, 13, 14, 15, 16, 17, 18, 19, 20, 21, 22, 23, 24, 25, 26, 27, 28, 29, 30, 31, 32, 33, 34, 35, 36, 37, 38, 39, 40, 41, 42, 43, 44, 45, 46, 47, 48, 49, 50, 51, 52, 53, 54, 55, 56, 57, 58, 59, 60, 61, 62, 63, 64, 65, 66, 67, 68, 69, 70, 71, 72, 73, 74, 75, 76, 77, 78, 79, 80, 81, 82, 83, 84, 85, 86, 87, 88, 89, 90, 91, 92, 93, 94, 95, 96, 97, 98, 99, 100, 101, 102, 103, 104, 105, 106, 107, 108, 109, 110, 111] (fun j => Cond.eq (.elem (.static "java/lang/Integer" "DigitOnes" "[B") (.int (Int32.ofNat j))) (.int (dOnes j))) 100 (by decide +kernel)) j hj))) hA
  obtain ⟨v23, e23, h23⟩ := va_Tof (tm := .static "java/lang/Integer" "DigitTens" "[B") (ty := .byte) (N := 100) (f := fun i => .int (dTens i)) (A := fun q : Nat => s.heap.size ≤ q) (by decide) (hs _ (List.mem_of_getElem? (i := 113) (by decide +kernel))) (va_eqt (hs _ (List.mem_of_getElem? (i := 114) (by decide +kernel)))) (fun j hj => va_eqt (hs _ ((nwF [115, 116, 117, 118, 119, 120, 121, 122, 123, 124, 125, 126, 127, 128, 129, 130, 131, 132, 133, 134, 135, 136, 137, 138, 139, 140, 141, 142, 143, 144, 145, 146, 147, 148, 149, 150, 151, 152, 153, 154, 155, 156, 157, 158, 159, 160, 161, 162, 163, 164, 165, 166, 167, 168, 169, 170, 171, 172, 173, 174, 175, 176, 177, 178, 179, 180, 181, 182, 183, 184, 185, 186, 187, 188, 189, 190, 191, 192, 193, 194, 195, 196, 197, 198, 199, 200, 201, 202, 203, 204, 205, 206, 207, 208, 209, 210, 211, 212, 213, 214] (fun j => Cond.eq (.elem (.static "java/lang/Integer" "DigitTens" "[B") (.int (Int32.ofNat j))) (.int (dTens j))) 100 (by decide +kernel)) j hj))) hA
  have hW := va_Efof (s := s) (N := 10) (E := RX10) (d0 := "LWireCutter$Verb;") (o := RX10) (n := "word") (d := "Ljava/lang/String;") (nm := vbN) (v := fun i => .ref (adK (wIx.getD i 0))) (tm := fun i => tmS (wIx.getD i 0)) (ad := ad) (A := fun q : Nat => s.heap.size ≤ q) hev (fun i hi => hs _ ((nwF [247, 251, 256, 262, 269, 277, 286, 296, 307, 319] (fun i => Cond.eq (.field (.static RX10 (vbN.getD i "") "LWireCutter$Verb;") RX10 "word" "Ljava/lang/String;") (tmS (wIx.getD i 0))) 10 (by decide +kernel)) i hi)) (fun i hi => hSe _ ((by decide : ∀ i, i < 10 → wIx.getD i 0 < 16) i hi)) hA
  have hPt := va_Efof (s := s) (N := 10) (E := RX10) (d0 := "LWireCutter$Verb;") (o := RX10) (n := "parts") (d := "Ljava/lang/String;") (nm := vbN) (v := fun i => .ref (adK (pIx.getD i 0))) (tm := fun i => tmS (pIx.getD i 0)) (ad := ad) (A := fun q : Nat => s.heap.size ≤ q) hev (fun i hi => hs _ ((nwF [248, 252, 257, 263, 270, 278, 287, 297, 308, 320] (fun i => Cond.eq (.field (.static RX10 (vbN.getD i "") "LWireCutter$Verb;") RX10 "parts" "Ljava/lang/String;") (tmS (pIx.getD i 0))) 10 (by decide +kernel)) i hi)) (fun i hi => hSe _ ((by decide : ∀ i, i < 10 → pIx.getD i 0 < 16) i hi)) hA
  have zV := va_Zref (hts _ (mT (mT7 (List.mem_of_getElem? (i := 85) rfl)))) (hts _ (mT (mT1 (List.mem_of_getElem? (i := 1) rfl)))) e20 hA
  have zM := va_Zref (hts _ (mT (mT7 (List.mem_of_getElem? (i := 166) rfl)))) (hts _ (mT (mT1 (List.mem_of_getElem? (i := 36) rfl)))) e21 hA
  have zO := va_Zref (hts _ (mT (mT3 (List.mem_of_getElem? (i := 176) rfl)))) (hts _ (mT (mT1 (List.mem_of_getElem? (i := 34) rfl)))) e22 hA
  have zT := va_Zref (hts _ (mT (mT3 (List.mem_of_getElem? (i := 178) rfl)))) (hts _ (mT (mT1 (List.mem_of_getElem? (i := 34) rfl)))) e23 hA
  have zC := va_Zof (A := fun q : Nat => s.heap.size ≤ q) (hts _ (mT (mT2 (List.mem_of_getElem? (i := 49) rfl)))) (hts _ (mT (mT1 (List.mem_of_getElem? (i := 14) rfl)))) (va_eqi (hs (Cond.eq (Term.static "java/lang/String" "COMPACT_STRINGS" "Z") (Term.int 1)) (List.mem_of_getElem? (i := 4) (by decide +kernel)))) hA
  have zP := va_Zqof (A := fun q : Nat => s.heap.size ≤ q) (hts _ (mT (mT3 (List.mem_of_getElem? (i := 106) rfl)))) (hts _ (mT (mT1 (List.mem_of_getElem? (i := 31) rfl)))) (hs _ (by decide +kernel)) hA
  have zU := vx_Zqof (A := fun q : Nat => s.heap.size ≤ q) (hts _ (mT (mT4 (List.mem_of_getElem? (i := 10) rfl)))) (hts _ (mT (mT1 (List.mem_of_getElem? (i := 17) rfl)))) (hs _ (by decide +kernel)) hA
  have zS := vx_Zqof (A := fun q : Nat => s.heap.size ≤ q) (hts _ (mT (mT4 (List.mem_of_getElem? (i := 12) rfl)))) (hts _ (mT (mT1 (List.mem_of_getElem? (i := 17) rfl)))) (hs _ (by decide +kernel)) hA
  have hR : ER s := by
    refine ⟨fun q hq => ?_, fun q hq => va_Nc.of (hs _ (nwC q hq)), va_AO.of o2, va_AO.of o3⟩
    obtain ⟨a, c, cA, kA, q1, -⟩ := Cond.exactly_spec (args := #[Value.ref b]) (first := s) (o := none) (s := s) (idx := []) (t := .string q.1 q.2.1) (cls := "java/lang/String") (hs _ (nwS q hq))
    exact ⟨a, vk_R.of (A := #[Value.ref b]) (hts _ (mT ((by decide +kernel : ∀ q ∈ lw_S, Cond.stringRef q.1 q.2.1 q.2.2 ∈ tables_1) q hq))) q1⟩
  let g : Nat → ClassId := fun n => if n = 0 then c0 else if n = 1 then c1 else if n = 2 then c2 else if n = 3 then c3 else if n = 4 then c0 else if n = 5 then c5 else if n = 6 then c6 else if n = 7 then c7 else if n = 20 then v20 else if n = 21 then v21 else if n = 22 then v22 else if n = 23 then v23 else if n < 200 then ad (n - 100) else if n < 300 then adK (n - 200) else adV (n - 300)
  have gK : ∀ i, i < 16 → g (200 + i) = adK i := fun i hi => by
    show (if 200 + i = 0 then _ else _) = _
    simp only [show ¬ 200 + i = 0 by omega, show ¬ 200 + i = 1 by omega, show ¬ 200 + i = 2 by omega, show ¬ 200 + i = 3 by omega, show ¬ 200 + i = 4 by omega, show ¬ 200 + i = 5 by omega, show ¬ 200 + i = 6 by omega, show ¬ 200 + i = 7 by omega, show ¬ 200 + i = 20 by omega, show ¬ 200 + i = 21 by omega, show ¬ 200 + i = 22 by omega, show ¬ 200 + i = 23 by omega, show ¬ 200 + i < 200 by omega, show 200 + i < 300 by omega, if_false, if_true, Nat.add_sub_cancel_left]
  have gV : ∀ i, i < 16 → g (300 + i) = adV i := fun i hi => by
    show (if 300 + i = 0 then _ else _) = _
    simp only [show ¬ 300 + i = 0 by omega, show ¬ 300 + i = 1 by omega, show ¬ 300 + i = 2 by omega, show ¬ 300 + i = 3 by omega, show ¬ 300 + i = 4 by omega, show ¬ 300 + i = 5 by omega, show ¬ 300 + i = 6 by omega, show ¬ 300 + i = 7 by omega, show ¬ 300 + i = 20 by omega, show ¬ 300 + i = 21 by omega, show ¬ 300 + i = 22 by omega, show ¬ 300 + i = 23 by omega, show ¬ 300 + i < 200 by omega, show ¬ 300 + i < 300 by omega, if_false, Nat.add_sub_cancel_left]
  have gA : ∀ i, i < 10 → g (100 + i) = ad i := fun i hi => by
    show (if 100 + i = 0 then _ else _) = _
    simp only [show ¬ 100 + i = 0 by omega, show ¬ 100 + i = 1 by omega, show ¬ 100 + i = 2 by omega, show ¬ 100 + i = 3 by omega, show ¬ 100 + i = 4 by omega, show ¬ 100 + i = 5 by omega, show ¬ 100 + i = 6 by omega, show ¬ 100 + i = 7 by omega, show ¬ 100 + i = 20 by omega, show ¬ 100 + i = 21 by omega, show ¬ 100 + i = 22 by omega, show ¬ 100 + i = 23 by omega, show 100 + i < 200 by omega, if_false, if_true, Nat.add_sub_cancel_left]
  refine ⟨dC, dI, g, ⟨⟨hK, fun k q hk => ?_⟩, st_N hts⟩, ⟨zU, zS, ?_, zV, ?_, ?_, ?_, ?_, zM, h21, zC, zO, h22, zT, h23, zP⟩, hR⟩
  · match k, hk with
    | 0, hk => cases hk; exact ⟨x0, y0⟩
    | 1, hk => cases hk; exact ⟨x1, y1⟩
    | 2, hk => cases hk; exact ⟨x2, y2⟩
    | 3, hk => cases hk; exact ⟨x3, y3⟩
    | 4, hk => cases hk; exact ⟨x0, y0⟩
    | 5, hk => cases hk; exact ⟨x5, y5⟩
    | 6, hk => cases hk; exact ⟨x6, y6⟩
    | 7, hk => cases hk; exact ⟨x7, y7⟩
    | k + 8, hk => exact absurd hk (by simp)
  · refine ⟨fun i hi => ?_, fun i hi => ?_⟩
    · rw [gA i hi]; exact (had i hi).2
    · dsimp only; rw [gA i hi]; exact hOr i hi
  · obtain ⟨cell, z1, z2, z3, z4, z5, z6, z7⟩ := h20
    exact ⟨cell, z1, z2, z3, z4, z5, fun j hj => by dsimp only; rw [gA j hj]; exact z6 j hj, z7⟩
  · intro i hi
    dsimp only
    rw [gA i hi, gK _ ((by decide : ∀ i, i < 10 → wIx.getD i 0 < 16) i hi)]
    exact hW i hi
  · intro i hi
    dsimp only
    rw [gA i hi, gK _ ((by decide : ∀ i, i < 10 → pIx.getD i 0 < 16) i hi)]
    exact hPt i hi
  · refine ⟨fun i hi => ?_, fun i j hi hj e => ?_⟩
    · dsimp only; rw [gK i hi, gV i hi]; exact hS.1 i hi
    · exact hS.2 i j hi hj (by dsimp only at e; rw [← gK i hi, ← gK j hj]; exact e)
