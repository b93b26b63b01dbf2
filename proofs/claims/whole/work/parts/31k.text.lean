/-! constants: rows that read them out of the environment; String.length, String.charAt of a constant text -/
section
variable {p : Program} {l : Launch} {e : Env} {R : Room} {s : State} {m : MethodId} {args : Array Value} {below : List Frame} {meth : Method} {c : Code} {H : Heap} {locs : List Loc} {cells slots : Nat} {Q : State → Prop} {pc : Nat} {ls : Array Slot} {st rest : List Value}
variable {cc bytes : ByteArray} {nL maxL index n fr lo b : Nat} {own host : String} {y : MethodName} {ret : Option FieldType} {dC : Nat → ClassId} {dI : Nat → Nat → Nat} {g : Nat → ClassId} {As : List Value} {A : Nat → Prop} {rv : Option Value}
/-- a field of a constant object -/
theorem gO {o nm d : String} {v : Value} {t : Nat} (F : CF p m c cc nL s args own) (hO : va_OF o nm d v t A s s.heap) (hS : va_S A s.heap H locs) (hl : Cond.fieldLink own index o nm d ∈ lw_U) (hdg : decode cc pc = .ok (.getfield index, 3))
    (kk : W p l e R s m args below meth c H locs cells slots Q (F0 m (pc + 3) ls (v :: rest))) : W p l e R s m args below meth c H locs cells slots Q (F0 m pc ls (.ref t :: rest)) := by
  obtain ⟨cf, k, i, f, cell, h1, h2, h3, h4, h5, h6⟩ := hO.kept hS.2.1
  exact W.getf F.1 F.2.1 F.2.2.2.1 (F.2.2.2.2 _ hl) h1 h2 h3 h4 h5 rfl rfl hdg kk
theorem gON {o nm d : String} {v : Value} {t : Nat} (F : CF p m c cc nL s args own) (hE : EK dC dI g s) (hO : va_OF o nm d v t A s s.heap) (hS : va_S A s.heap H locs) (hl : Cond.fieldLinkNest own index o nm d host ∈ lw_N) (hdg : decode cc pc = .ok (.getfield index, 3))
    (kk : W p l e R s m args below meth c H locs cells slots Q (F0 m (pc + 3) ls (v :: rest))) : W p l e R s m args below meth c H locs cells slots Q (F0 m pc ls (.ref t :: rest)) := by
  obtain ⟨cf, k, i, f, cell, h1, h2, h3, h4, h5, h6⟩ := hO.kept hS.2.1
  exact va_Wgetf F.1 F.2.1 F.2.2.2.1 (va_Nw.use rfl (hE.2 _ hl)) h1 h2 h3 h4 h5 rfl rfl hdg kk
/-- a static that holds null or some reference -/
theorem gZq {o nm d : String} (F : CF p m c cc nL s args own) (hZ : va_Zq o nm d A s s.heap) (hS : va_S A s.heap H locs) (hl : Cond.fieldLink own index o nm d ∈ lw_U) (hdg : decode cc pc = .ok (.getstatic index, 3))
    (k0 : W p l e R s m args below meth c H locs cells slots Q (F0 m (pc + 3) ls (.null :: rest))) (k1 : ∀ t : Nat, W p l e R s m args below meth c H locs cells slots Q (F0 m (pc + 3) ls (.ref t :: rest))) : W p l e R s m args below meth c H locs cells slots Q (F0 m pc ls rest) := by
  rcases hZ with h | ⟨t, h⟩
  · exact va_gets F.1 F.2.1 h hS F.2.2.2.1 (F.2.2.2.2 _ hl) (fun _ h => h) hdg k0
  · exact va_gets F.1 F.2.1 h hS F.2.2.2.1 (F.2.2.2.2 _ hl) (fun _ h => h) hdg (k1 t)
/-- a call on a constant object, of a method that reads, without a world -/
theorem cRVc (F : CF p m c cc nL s args own) (hE : EK dC dI g s) (hX : EX g A s s.heap) (hS : va_S A s.heap H locs) (M : RO l y bytes maxL ret fr lo dC dI g (.ref b :: As) [] rv) (mv : MV y bytes maxL ret n) (hl : Cond.methodLink own index y ∈ lw_U) (hR : fr + 1 ≤ R.frames ∧ 8 + (maxL + 11) + lo ≤ R.locals) (hf : cells ≤ R.cells ∧ slots ≤ R.slots)
    (hrc : va_O y.cls b A s s.heap) (hn : As.length = n) (hls : ls.size = nL) (hst : st = As.reverse ++ .ref b :: rest) (hW : (rest.map fun v => v.category).sum ≤ 8) (hdg : decode cc pc = .ok (.invokevirtual index, 3))
    (kk : W p l e R s m args below meth c H locs cells slots Q (F0 m (pc + 3) ls (rv.toList ++ rest))) : W p l e R s m args below meth c H locs cells slots Q (F0 m pc ls st) := by
  have hPc : va_P (dC, dI) vwCl [] H := fun k q h => by simp at h
  unfold RO at M
  exact clRO (a := (Value.ref b :: As).toArray) (va_runV F M ⟨mbB (ws' := lw_U) F mv.1 hl rfl rfl hR, F.2.2.2.2 _ mv.2.1, F.2.2.2.2 _ mv.2.2⟩ ⟨fun a U G mk q => ⟨q.1, q.2.1.calling, q.2.2.1.calling, q.2.2.2⟩, va_Orecv hrc hS, fun U hU hW => ⟨rfl, hE.warm hW, by show EX g (fun _ => False) U U.heap; rw [hU]; exact ((hX.at hS).narrow (fun _ h => h.elim)).moved hW, by rw [hU]; exact hPc⟩⟩ rfl hn hls hst (lv_room hW) hdg ⟨by rw [Nat.add_zero]; exact hf.1, by rw [Nat.add_zero]; exact hf.2⟩) kk
end
/-- a letter of a constant text -/
def chS (j i : Nat) : Int32 := (stB.getD j []).getD i 0
theorem EX.S {g : Nat → ClassId} {A : Nat → Prop} {U : State} {H : Heap} (h : EX g A U H) {i : Nat} (hi : i < 16) : va_O "java/lang/String" (g (200 + i)) A U H ∧ va_OF "java/lang/String" "coder" "B" (.int 0) (g (200 + i)) A U H ∧ va_OF "java/lang/String" "value" "[B" (.ref (g (300 + i))) (g (200 + i)) A U H ∧ va_T .byte (g (300 + i)) (stL.getD i 0) (fun j => .int ((stB.getD i []).getD j 0)) A U H := h.1.2.2.2.2.2.2.2.1.1 i hi
theorem EX.cs {g : Nat → ClassId} {A : Nat → Prop} {U : State} {H : Heap} (h : EX g A U H) : va_Z "java/lang/String" "COMPACT_STRINGS" "Z" (.int 1) A U H := h.1.2.2.2.2.2.2.2.2.2.2.1
theorem EX.fm {g : Nat → ClassId} {A : Nat → Prop} {U : State} {H : Heap} (h : EX g A U H) : va_Zq "jdk/internal/util/Preconditions" "SIOOBE_FORMATTER" "Ljava/util/function/BiFunction;" A U H := h.1.2.2.2.2.2.2.2.2.2.2.2.2.2.2.2
theorem chS_char : ∀ j, j < 16 → ∀ i, i < stL.getD j 0 → ((chS j i &&& 255).toUInt32 % 65536).toInt32 = chS j i := by decide +kernel
/-! String.length, String.charAt -/
theorem inR_lt2 {i : Int32} {n : Nat} (h : inR i n = true) : i.toNatClampNeg < n := by
  have h1 := inR_in h
  unfold vp_in at h1
  omega
theorem inR_cmp {i : Int32} {n : Nat} (h : inR i n = true) (hn : n < 2 ^ 31) : ¬ i < 0 ∧ i < nI n := by
  obtain ⟨j, hj, rfl⟩ := vp_in_of (inR_in h) hn
  exact ⟨nI_pos (by omega), nI_lt hj hn⟩
theorem stL_b : ∀ j, j < 16 → stL.getD j 0 < 2 ^ 31 := by decide +kernel
theorem mbJ3_checkIndex_8e157 : MS yJ3_checkIndex_8e157 cJ3_checkIndex_8e157 3 (some .int) 3 := ⟨⟨q875, q31, by decide +kernel⟩, q874⟩
set_option maxHeartbeats 4000000 in
set_option maxRecDepth 100000 in
theorem tJ3_checkIndex_8e157N (l : Launch) (dC : Nat → ClassId) (dI : Nat → Nat → Nat) (g : Nat → ClassId) (i n : Int32) (h1 : ¬ i < 0) (h2 : i < n) : RO l yJ3_checkIndex_8e157 cJ3_checkIndex_8e157 3 (some .int) 0 0 dC dI g [.int i, .int n, .null] [] (some (.int i)) := by
  refine RO_of (by decide +kernel) (Nat.le_of_ble_eq_true rfl) ?_
  intro p e s m below meth c ls F hr hlocks hE hX hP hl
  replace F : CF p m c cJ3_checkIndex_8e157 3 s _ RJ3 := F
  replace hl : lv_has ls 3 [(0, .int i), (1, .int n), (2, .null)] := hl
  refine lv_iload_n F.1 F.2.1 dJ3_checkIndex_8e157_0 rfl (lv_at hl 0 rfl) ?_
  refine lv_if_lt (tgt := 9) F.1 F.2.1 dJ3_checkIndex_8e157_1 (by decide) (fun k => absurd k h1) (fun _ => ?_)
  refine lv_iload_n F.1 F.2.1 dJ3_checkIndex_8e157_4 rfl (lv_at hl 0 rfl) ?_
  refine lv_iload_n F.1 F.2.1 dJ3_checkIndex_8e157_5 rfl (lv_at hl 1 rfl) ?_
  refine lv_icmp_lt (tgt := 16) F.1 F.2.1 dJ3_checkIndex_8e157_6 (by decide) (fun _ => ?_) (fun k => absurd h2 k)
  refine lv_iload_n F.1 F.2.1 dJ3_checkIndex_8e157_16 rfl (lv_at hl 0 rfl) ?_
  exact RO_i F hr hlocks dJ3_checkIndex_8e157_17
set_option maxHeartbeats 4000000 in
set_option maxRecDepth 100000 in
theorem tJ3_checkIndex_8e157R (l : Launch) (dC : Nat → ClassId) (dI : Nat → Nat → Nat) (g : Nat → ClassId) (t : Nat) (i n : Int32) (h1 : ¬ i < 0) (h2 : i < n) : RO l yJ3_checkIndex_8e157 cJ3_checkIndex_8e157 3 (some .int) 0 0 dC dI g [.int i, .int n, .ref t] [] (some (.int i)) := by
  refine RO_of (by decide +kernel) (Nat.le_of_ble_eq_true rfl) ?_
  intro p e s m below meth c ls F hr hlocks hE hX hP hl
  replace F : CF p m c cJ3_checkIndex_8e157 3 s _ RJ3 := F
  replace hl : lv_has ls 3 [(0, .int i), (1, .int n), (2, .ref t)] := hl
  refine lv_iload_n F.1 F.2.1 dJ3_checkIndex_8e157_0 rfl (lv_at hl 0 rfl) ?_
  refine lv_if_lt (tgt := 9) F.1 F.2.1 dJ3_checkIndex_8e157_1 (by decide) (fun k => absurd k h1) (fun _ => ?_)
  refine lv_iload_n F.1 F.2.1 dJ3_checkIndex_8e157_4 rfl (lv_at hl 0 rfl) ?_
  refine lv_iload_n F.1 F.2.1 dJ3_checkIndex_8e157_5 rfl (lv_at hl 1 rfl) ?_
  refine lv_icmp_lt (tgt := 16) F.1 F.2.1 dJ3_checkIndex_8e157_6 (by decide) (fun _ => ?_) (fun k => absurd h2 k)
  refine lv_iload_n F.1 F.2.1 dJ3_checkIndex_8e157_16 rfl (lv_at hl 0 rfl) ?_
  exact RO_i F hr hlocks dJ3_checkIndex_8e157_17
theorem mbJ0_checkIndex_df160 : MS yJ0_checkIndex_df160 cJ0_checkIndex_df160 2 none 2 := ⟨⟨q872, q14, by decide +kernel⟩, q871⟩
set_option maxHeartbeats 4000000 in
set_option maxRecDepth 100000 in
theorem tJ0_checkIndex_df160 (l : Launch) (dC : Nat → ClassId) (dI : Nat → Nat → Nat) (g : Nat → ClassId) (i n : Int32) (h1 : ¬ i < 0) (h2 : i < n) : RO l yJ0_checkIndex_df160 cJ0_checkIndex_df160 2 none 1 22 dC dI g [.int i, .int n] [] none := by
  refine RO_of (by decide +kernel) (Nat.le_of_ble_eq_true rfl) ?_
  intro p e s m below meth c ls F hr hlocks hE hX hP hl
  replace F : CF p m c cJ0_checkIndex_df160 2 s _ RJ0 := F
  replace hl : lv_has ls 2 [(0, .int i), (1, .int n)] := hl
  refine lv_iload_n F.1 F.2.1 dJ0_checkIndex_df160_0 rfl (lv_at hl 0 rfl) ?_
  refine lv_iload_n F.1 F.2.1 dJ0_checkIndex_df160_1 rfl (lv_at hl 1 rfl) ?_
  refine gZq F hX.fm va_S.rf q585 dJ0_checkIndex_df160_2 ?_ (fun t => ?_)
  · refine cRS0 (As := [.int i, .int n, .null]) (rest := []) F hE hX va_S.rf (tJ3_checkIndex_8e157N l dC dI g i n h1 h2) mbJ3_checkIndex_8e157 q873 ⟨(Nat.le_of_ble_eq_true rfl), (Nat.le_of_ble_eq_true rfl)⟩ ⟨Nat.zero_le _, Nat.zero_le _⟩ hP rfl hl.1 rfl (Nat.le_of_ble_eq_true rfl) dJ0_checkIndex_df160_5 ?_
    refine lv_pop F.1 F.2.1 dJ0_checkIndex_df160_8 rfl ?_
    exact RO_v F hr hlocks dJ0_checkIndex_df160_9
  · refine cRS0 (As := [.int i, .int n, .ref t]) (rest := []) F hE hX va_S.rf (tJ3_checkIndex_8e157R l dC dI g t i n h1 h2) mbJ3_checkIndex_8e157 q873 ⟨(Nat.le_of_ble_eq_true rfl), (Nat.le_of_ble_eq_true rfl)⟩ ⟨Nat.zero_le _, Nat.zero_le _⟩ hP rfl hl.1 rfl (Nat.le_of_ble_eq_true rfl) dJ0_checkIndex_df160_5 ?_
    refine lv_pop F.1 F.2.1 dJ0_checkIndex_df160_8 rfl ?_
    exact RO_v F hr hlocks dJ0_checkIndex_df160_9
theorem mbJ0_coder_7d493 : MV yJ0_coder_7d493 cJ0_coder_7d493 1 (some .byte) 0 := ⟨⟨q606, q14, by decide +kernel⟩, q604, q605⟩
set_option maxHeartbeats 4000000 in
set_option maxRecDepth 100000 in
theorem tJ0_coder_7d493 (l : Launch) (dC : Nat → ClassId) (dI : Nat → Nat → Nat) (g : Nat → ClassId) {j : Nat} (hj : j < 16) : RO l yJ0_coder_7d493 cJ0_coder_7d493 1 (some .byte) 0 0 dC dI g [.ref (g (200 + j))] [] (some (.int 0)) := by
  refine RO_of (by decide +kernel) (Nat.le_of_ble_eq_true rfl) ?_
  intro p e s m below meth c ls F hr hlocks hE hX hP hl
  replace F : CF p m c cJ0_coder_7d493 1 s _ RJ0 := F
  replace hl : lv_has ls 1 [(0, .ref (g (200 + j)))] := hl
  refine va_gets F.1 F.2.1 hX.cs va_S.rf F.2.2.2.1 (F.2.2.2.2 _ q607) (fun _ h => h) dJ0_coder_7d493_0 ?_
  refine lv_if_eq (tgt := 13) F.1 F.2.1 dJ0_coder_7d493_3 (by decide) (fun k => absurd k (by decide)) (fun _ => ?_)
  refine lv_aload_n F.1 F.2.1 dJ0_coder_7d493_6 rfl (lv_at hl 0 rfl) ?_
  refine gO F (hX.S hj).2.1 va_S.rf q794 dJ0_coder_7d493_7 ?_
  refine lv_goto (tgt := 14) F.1 F.2.1 dJ0_coder_7d493_10 (by decide) ?_
  exact RO_z F hr hlocks rfl dJ0_coder_7d493_14
theorem mbJ0_isLatin1_aae02 : MV yJ0_isLatin1_aae02 cJ0_isLatin1_aae02 1 (some .boolean) 0 := ⟨⟨q1538, q14, by decide +kernel⟩, q1536, q1537⟩
set_option maxHeartbeats 4000000 in
set_option maxRecDepth 100000 in
theorem tJ0_isLatin1_aae02 (l : Launch) (dC : Nat → ClassId) (dI : Nat → Nat → Nat) (g : Nat → ClassId) {j : Nat} (hj : j < 16) : RO l yJ0_isLatin1_aae02 cJ0_isLatin1_aae02 1 (some .boolean) 0 0 dC dI g [.ref (g (200 + j))] [] (some (.int 1)) := by
  refine RO_of (by decide +kernel) (Nat.le_of_ble_eq_true rfl) ?_
  intro p e s m below meth c ls F hr hlocks hE hX hP hl
  replace F : CF p m c cJ0_isLatin1_aae02 1 s _ RJ0 := F
  replace hl : lv_has ls 1 [(0, .ref (g (200 + j)))] := hl
  refine va_gets F.1 F.2.1 hX.cs va_S.rf F.2.2.2.1 (F.2.2.2.2 _ q607) (fun _ h => h) dJ0_isLatin1_aae02_0 ?_
  refine lv_if_eq (tgt := 17) F.1 F.2.1 dJ0_isLatin1_aae02_3 (by decide) (fun k => absurd k (by decide)) (fun _ => ?_)
  refine lv_aload_n F.1 F.2.1 dJ0_isLatin1_aae02_6 rfl (lv_at hl 0 rfl) ?_
  refine gO F (hX.S hj).2.1 va_S.rf q794 dJ0_isLatin1_aae02_7 ?_
  refine lv_if_ne (tgt := 17) F.1 F.2.1 dJ0_isLatin1_aae02_10 (by decide) (fun k => absurd rfl k) (fun _ => ?_)
  refine lv_iconst (v := 1) F.1 F.2.1 dJ0_isLatin1_aae02_13 (by decide) ?_
  refine lv_goto (tgt := 18) F.1 F.2.1 dJ0_isLatin1_aae02_14 (by decide) ?_
  exact RO_z F hr hlocks rfl dJ0_isLatin1_aae02_18
theorem mbJ0_length_8abf5 : MV yJ0_length_8abf5 cJ0_length_8abf5 1 (some .int) 0 := ⟨⟨q602, q14, by decide +kernel⟩, q600, q601⟩
set_option maxHeartbeats 4000000 in
set_option maxRecDepth 100000 in
theorem tJ0_length_8abf5 (l : Launch) (dC : Nat → ClassId) (dI : Nat → Nat → Nat) (g : Nat → ClassId) {j : Nat} (hj : j < 16) : RO l yJ0_length_8abf5 cJ0_length_8abf5 1 (some .int) 1 21 dC dI g [.ref (g (200 + j))] [] (some (.int (nI (stL.getD j 0)))) := by
  refine RO_of (by decide +kernel) (Nat.le_of_ble_eq_true rfl) ?_
  intro p e s m below meth c ls F hr hlocks hE hX hP hl
  replace F : CF p m c cJ0_length_8abf5 1 s _ RJ0 := F
  replace hl : lv_has ls 1 [(0, .ref (g (200 + j)))] := hl
  refine lv_aload_n F.1 F.2.1 dJ0_length_8abf5_0 rfl (lv_at hl 0 rfl) ?_
  refine gO F (hX.S hj).2.2.1 va_S.rf q793 dJ0_length_8abf5_1 ?_
  refine va_tlen (v := nI (stL.getD j 0)) F.1 F.2.1 (hX.S hj).2.2.2 va_S.rf rfl dJ0_length_8abf5_4 ?_
  refine lv_aload_n F.1 F.2.1 dJ0_length_8abf5_5 rfl (lv_at hl 0 rfl) ?_
  refine cRVc (As := []) (rest := [.int (nI (stL.getD j 0))]) F hE hX va_S.rf (tJ0_coder_7d493 l dC dI g hj) mbJ0_coder_7d493 q603 ⟨(Nat.le_of_ble_eq_true rfl), (Nat.le_of_ble_eq_true rfl)⟩ ⟨Nat.zero_le _, Nat.zero_le _⟩ (hX.S hj).1 rfl hl.1 rfl (Nat.le_of_ble_eq_true rfl) dJ0_length_8abf5_6 ?_
  refine lv_ishr F.1 F.2.1 dJ0_length_8abf5_9 ?_
  rw [sb_shr0]
  exact RO_i F hr hlocks dJ0_length_8abf5_10
theorem mbJ1_charAt_3b067 : MS yJ1_charAt_3b067 cJ1_charAt_3b067 2 (some .char) 2 := ⟨⟨q1541, q32, by decide +kernel⟩, q1540⟩
set_option maxHeartbeats 4000000 in
set_option maxRecDepth 100000 in
theorem tJ1_charAt_3b067 (l : Launch) (dC : Nat → ClassId) (dI : Nat → Nat → Nat) (g : Nat → ClassId) {j : Nat} (hj : j < 16) (i : Int32) (hi : inR i (stL.getD j 0) = true) : RO l yJ1_charAt_3b067 cJ1_charAt_3b067 2 (some .char) 2 43 dC dI g [.ref (g (300 + j)), .int i] [] (some (.int (chS j i.toNatClampNeg))) := by
  have hq := inR_lt2 hi
  have hb : stL.getD j 0 < 2 ^ 31 := stL_b j hj
  obtain ⟨q1, q2⟩ := inR_cmp hi hb
  refine RO_of (by decide +kernel) (Nat.le_of_ble_eq_true rfl) ?_
  intro p e s m below meth c ls F hr hlocks hE hX hP hl
  replace F : CF p m c cJ1_charAt_3b067 2 s _ RJ1 := F
  replace hl : lv_has ls 2 [(0, .ref (g (300 + j))), (1, .int i)] := hl
  refine lv_iload_n F.1 F.2.1 dJ1_charAt_3b067_0 rfl (lv_at hl 1 rfl) ?_
  refine lv_aload_n F.1 F.2.1 dJ1_charAt_3b067_1 rfl (lv_at hl 0 rfl) ?_
  refine va_tlen (v := nI (stL.getD j 0)) F.1 F.2.1 (hX.S hj).2.2.2 va_S.rf rfl dJ1_charAt_3b067_2 ?_
  refine cRS0 (As := [.int i, .int (nI (stL.getD j 0))]) (rest := []) F hE hX va_S.rf (tJ0_checkIndex_df160 l dC dI g i (nI (stL.getD j 0)) q1 q2) mbJ0_checkIndex_df160 q1542 ⟨(Nat.le_of_ble_eq_true rfl), (Nat.le_of_ble_eq_true rfl)⟩ ⟨Nat.zero_le _, Nat.zero_le _⟩ hP rfl hl.1 rfl (Nat.le_of_ble_eq_true rfl) dJ1_charAt_3b067_3 ?_
  refine lv_aload_n F.1 F.2.1 dJ1_charAt_3b067_6 rfl (lv_at hl 0 rfl) ?_
  refine lv_iload_n F.1 F.2.1 dJ1_charAt_3b067_7 rfl (lv_at hl 1 rfl) ?_
  refine va_tb (v := .int (chS j i.toNatClampNeg)) F.1 F.2.1 (hX.S hj).2.2.2 va_S.rf (inR_in hi) rfl dJ1_charAt_3b067_8 ?_
  refine lv_sipush (v := 255) F.1 F.2.1 dJ1_charAt_3b067_9 (by decide) ?_
  refine lv_iand F.1 F.2.1 dJ1_charAt_3b067_12 ?_
  refine lv_i2c (v := chS j i.toNatClampNeg) F.1 F.2.1 dJ1_charAt_3b067_13 (chS_char j hj _ hq) ?_
  exact RO_z F hr hlocks (by rw [← chS_char j hj _ hq]; exact pk_nc _) dJ1_charAt_3b067_14
theorem mbJ0_charAt_5068e : MV yJ0_charAt_5068e cJ0_charAt_5068e 2 (some .char) 1 := ⟨⟨q1534, q14, by decide +kernel⟩, q1532, q1533⟩
set_option maxHeartbeats 4000000 in
set_option maxRecDepth 100000 in
theorem tJ0_charAt_5068e (l : Launch) (dC : Nat → ClassId) (dI : Nat → Nat → Nat) (g : Nat → ClassId) {j : Nat} (hj : j < 16) (i : Int32) (hi : inR i (stL.getD j 0) = true) : RO l yJ0_charAt_5068e cJ0_charAt_5068e 2 (some .char) 3 64 dC dI g [.ref (g (200 + j)), .int i] [] (some (.int (chS j i.toNatClampNeg))) := by
  have hq := inR_lt2 hi
  refine RO_of (by decide +kernel) (Nat.le_of_ble_eq_true rfl) ?_
  intro p e s m below meth c ls F hr hlocks hE hX hP hl
  replace F : CF p m c cJ0_charAt_5068e 2 s _ RJ0 := F
  replace hl : lv_has ls 2 [(0, .ref (g (200 + j))), (1, .int i)] := hl
  refine lv_aload_n F.1 F.2.1 dJ0_charAt_5068e_0 rfl (lv_at hl 0 rfl) ?_
  refine cRVc (As := []) (rest := []) F hE hX va_S.rf (tJ0_isLatin1_aae02 l dC dI g hj) mbJ0_isLatin1_aae02 q1535 ⟨(Nat.le_of_ble_eq_true rfl), (Nat.le_of_ble_eq_true rfl)⟩ ⟨Nat.zero_le _, Nat.zero_le _⟩ (hX.S hj).1 rfl hl.1 rfl (Nat.le_of_ble_eq_true rfl) dJ0_charAt_5068e_1 ?_
  refine lv_if_eq (tgt := 16) F.1 F.2.1 dJ0_charAt_5068e_4 (by decide) (fun k => absurd k (by decide)) (fun _ => ?_)
  refine lv_aload_n F.1 F.2.1 dJ0_charAt_5068e_7 rfl (lv_at hl 0 rfl) ?_
  refine gO F (hX.S hj).2.2.1 va_S.rf q793 dJ0_charAt_5068e_8 ?_
  refine lv_iload_n F.1 F.2.1 dJ0_charAt_5068e_11 rfl (lv_at hl 1 rfl) ?_
  refine cRS0 (As := [.ref (g (300 + j)), .int i]) (rest := []) F hE hX va_S.rf (tJ1_charAt_3b067 l dC dI g hj i hi) mbJ1_charAt_3b067 q1539 ⟨(Nat.le_of_ble_eq_true rfl), (Nat.le_of_ble_eq_true rfl)⟩ ⟨Nat.zero_le _, Nat.zero_le _⟩ hP rfl hl.1 rfl (Nat.le_of_ble_eq_true rfl) dJ0_charAt_5068e_12 ?_
  exact RO_z F hr hlocks (by rw [← chS_char j hj _ hq]; exact pk_nc _) dJ0_charAt_5068e_15
