/-! own rows: environment, contracts that read (RO), contracts that write (MU), calls of both, ends of both, partial functions -/
def EN (U : State) : Prop := ∀ w ∈ lw_N, va_Nw w U
theorem EN.warm {s U : State} (hW : s.WarmedH U.vm) (h : EN s) : EN U := by
  intro w hw
  have h1 := h w hw
  have h2 := (List.mem_filter.mp hw).2
  cases w <;> first | (exfalso; revert h2; simp [nwOK]; done) | exact va_Nw.warmF hW h1 | exact va_Nw.warmM hW h1 | exact va_Nw.warmC hW h1 | exact va_Nw.warmD hW h1
theorem EN.vm {s U : State} (hv : s.vm = U.vm) (h : EN s) : EN U := by
  intro w hw
  have h1 := h w hw
  have h2 := (List.mem_filter.mp hw).2
  refine va_Nw.same ?_ hv h1
  cases w <;> first | rfl | (exfalso; revert h2; simp [nwOK]; done)
/-- the array classes: g's places -/
abbrev TYs (g : Nat → ClassId) : List (ClassId × FieldType) := [(g 0, .int), (g 1, .char), (g 2, .object RX11), (g 3, .object RX2), (g 4, .int), (g 5, .byte), (g 6, .long), (g 7, .double)]
def EK (dC : Nat → ClassId) (dI : Nat → Nat → Nat) (g : Nat → ClassId) (U : State) : Prop := va_K (dC, dI) vwCl (TYs g) U ∧ EN U
theorem EK.warm {dC : Nat → ClassId} {dI : Nat → Nat → Nat} {g : Nat → ClassId} {s U : State} (hW : s.WarmedH U.vm) (h : EK dC dI g s) : EK dC dI g U := ⟨va_K.moved hW.alike h.1, EN.warm hW h.2⟩
theorem EK.calling {dC : Nat → ClassId} {dI : Nat → Nat → Nat} {g : Nat → ClassId} {U : State} {G : JFrame} {mk : MethodId} {a : Array Value} (h : EK dC dI g U) : EK dC dI g (U.calling G mk a) := ⟨va_K.moved (u := U) (U := U.calling G mk a) (Vm.Alike.refl U.vm) h.1, EN.vm (s := U) (U := U.calling G mk a) rfl h.2⟩
/-! the environment: what constants and statics hold, outside of what a method may write (A) -/
def lw_S : List (String × Nat × String) := [(RX12, 141, "no such rank"), (RX12, 190, "no such position"), (RX12, 200, "not from a scrap"), (RX12, 205, "not from a spool"), (RX12, 242, "no spools"), (RX12, 248, "no piece was cut"), (RX12, 276, "outside of the line"), (RX12, 287, "the buffer is full"), (RX12, 297, "not a program"), (RX12, 314, "a command failed"), (RX12, 317, "no syntax error"), (RX12, 319, "no failed command"), (RX12, 322, "nothing to undo"), (RX12, 330, "no saved state"), (RX12, 349, "no such material"), (RX11, 69, "no such spool"), (RX11, 77, "no such open order"), (RX11, 85, "length out of range"), (RX11, 94, "too many spools"), (RX11, 140, "too many open orders"), (RX11, 155, "cannot be filled"), (RX11, 164, "kerf out of range"), (RX11, 166, "limit out of range"), (RX11, 172, "no such rule"), (RX11, 277, "day out of range")]
theorem sq0 : (RX12, 141, "no such rank") ∈ lw_S := List.mem_of_getElem? (i := 0) rfl
theorem sq1 : (RX12, 190, "no such position") ∈ lw_S := List.mem_of_getElem? (i := 1) rfl
theorem sq2 : (RX12, 200, "not from a scrap") ∈ lw_S := List.mem_of_getElem? (i := 2) rfl
theorem sq3 : (RX12, 205, "not from a spool") ∈ lw_S := List.mem_of_getElem? (i := 3) rfl
theorem sq4 : (RX12, 242, "no spools") ∈ lw_S := List.mem_of_getElem? (i := 4) rfl
theorem sq5 : (RX12, 248, "no piece was cut") ∈ lw_S := List.mem_of_getElem? (i := 5) rfl
theorem sq6 : (RX12, 276, "outside of the line") ∈ lw_S := List.mem_of_getElem? (i := 6) rfl
theorem sq7 : (RX12, 287, "the buffer is full") ∈ lw_S := List.mem_of_getElem? (i := 7) rfl
theorem sq8 : (RX12, 297, "not a program") ∈ lw_S := List.mem_of_getElem? (i := 8) rfl
theorem sq9 : (RX12, 314, "a command failed") ∈ lw_S := List.mem_of_getElem? (i := 9) rfl
theorem sq10 : (RX12, 317, "no syntax error") ∈ lw_S := List.mem_of_getElem? (i := 10) rfl
theorem sq11 : (RX12, 319, "no failed command") ∈ lw_S := List.mem_of_getElem? (i := 11) rfl
theorem sq12 : (RX12, 322, "nothing to undo") ∈ lw_S := List.mem_of_getElem? (i := 12) rfl
theorem sq13 : (RX12, 330, "no saved state") ∈ lw_S := List.mem_of_getElem? (i := 13) rfl
theorem sq14 : (RX12, 349, "no such material") ∈ lw_S := List.mem_of_getElem? (i := 14) rfl
theorem sq15 : (RX11, 69, "no such spool") ∈ lw_S := List.mem_of_getElem? (i := 15) rfl
theorem sq16 : (RX11, 77, "no such open order") ∈ lw_S := List.mem_of_getElem? (i := 16) rfl
theorem sq17 : (RX11, 85, "length out of range") ∈ lw_S := List.mem_of_getElem? (i := 17) rfl
theorem sq18 : (RX11, 94, "too many spools") ∈ lw_S := List.mem_of_getElem? (i := 18) rfl
theorem sq19 : (RX11, 140, "too many open orders") ∈ lw_S := List.mem_of_getElem? (i := 19) rfl
theorem sq20 : (RX11, 155, "cannot be filled") ∈ lw_S := List.mem_of_getElem? (i := 20) rfl
theorem sq21 : (RX11, 164, "kerf out of range") ∈ lw_S := List.mem_of_getElem? (i := 21) rfl
theorem sq22 : (RX11, 166, "limit out of range") ∈ lw_S := List.mem_of_getElem? (i := 22) rfl
theorem sq23 : (RX11, 172, "no such rule") ∈ lw_S := List.mem_of_getElem? (i := 23) rfl
theorem sq24 : (RX11, 277, "day out of range") ∈ lw_S := List.mem_of_getElem? (i := 24) rfl
/-- which of the thrown classes is no subclass of which of the caught ones -/
def lw_C : List (String × String) := [("java/lang/IllegalStateException", "java/lang/IllegalArgumentException"), ("java/util/NoSuchElementException", "java/lang/IllegalArgumentException"), ("java/lang/UnsupportedOperationException", "java/lang/IllegalArgumentException"), ("java/util/NoSuchElementException", "java/lang/IllegalStateException"), ("java/lang/UnsupportedOperationException", "java/lang/IllegalStateException"), ("java/lang/UnsupportedOperationException", "java/util/NoSuchElementException")]
def ER (U : State) : Prop := (∀ q ∈ lw_S, ∃ a : Nat, vk_R q.1 q.2.1 q.2.2 a U) ∧ (∀ q ∈ lw_C, va_Nc q.1 q.2 U) ∧ va_AO RX11 U ∧ va_AO RX2 U
theorem ER.warm {s U : State} (hW : s.WarmedH U.vm) (h : ER s) : ER U := ⟨fun q hq => by obtain ⟨a, ha⟩ := h.1 q hq; exact ⟨a, vk_R.warm hW ha⟩, fun q hq => va_Nc.moved hW.alike (h.2.1 q hq), va_AO.moved hW.alike h.2.2.1, va_AO.moved hW.alike h.2.2.2⟩
theorem ER.vm {s U : State} (hv : U.vm = s.vm) (h : ER s) : ER U := ⟨fun q hq => by obtain ⟨a, ha⟩ := h.1 q hq; exact ⟨a, vk_R.same hv ha⟩, fun q hq => by have := h.2.1 q hq; unfold va_Nc at this ⊢; rw [hv]; exact this, va_AO.moved (by rw [hv]; exact Vm.Alike.refl _) h.2.2.1, va_AO.moved (by rw [hv]; exact Vm.Alike.refl _) h.2.2.2⟩
def vbN : List String := ["SPOOL", "ORDER", "CANCEL", "FILL", "DUE", "RETIRE", "CLEAR", "KERF", "LIMIT", "RULE"]
def vbF : List (String × String × String × List Int32) := [("java/lang/Enum", "ordinal", "I", [0, 1, 2, 3, 4, 5, 6, 7, 8, 9])]
def stL : List Nat := [6, 2, 6, 4, 7, 1, 5, 4, 7, 6, 1, 5, 1, 6, 5, 1]
def stB : List (List Int32) := [[115, 112, 111, 111, 108, 32], [109, 110], [111, 114, 100, 101, 114, 32], [109, 110, 64, 110], [99, 97, 110, 99, 101, 108, 32], [110], [102, 105, 108, 108, 32], [100, 117, 101, 32], [114, 101, 116, 105, 114, 101, 32], [99, 108, 101, 97, 114, 32], [109], [107, 101, 114, 102, 32], [100], [108, 105, 109, 105, 116, 32], [114, 117, 108, 101, 32], [114]]
def wIx : List Nat := [0, 2, 4, 6, 7, 8, 9, 11, 13, 14]
def pIx : List Nat := [1, 3, 5, 5, 5, 5, 10, 12, 5, 15]
def dOnes : Nat → Int32 := fun j => Int32.ofNat (48 + j % 10)
def dTens : Nat → Int32 := fun j => Int32.ofNat (48 + j / 10)
/-- the verbs: objects of their class, their ordinals -/
def vEO (g : Nat → ClassId) (A : Nat → Prop) (U : State) (H : Heap) : Prop := (∀ i : Nat, i < 10 → va_O RX10 (g (100 + i)) A U H) ∧ va_Ef 10 "java/lang/Enum" "ordinal" "I" (fun i => .int (([0, 1, 2, 3, 4, 5, 6, 7, 8, 9] : List Int32).getD i 0)) (fun i => g (100 + i)) A U H
theorem vEO.moved {g : Nat → ClassId} {A : Nat → Prop} {u U : State} {H : Heap} (hvm : u.vm.Alike U.vm) (h : vEO g A u H) : vEO g A U H := ⟨fun i hi => va_O.moved hvm (h.1 i hi), va_Ef.moved hvm h.2⟩
theorem vEO.kept {g : Nat → ClassId} {A : Nat → Prop} {U : State} {H H1 : Heap} (h : vEO g A U H) (hq : ∀ a : Nat, a < H.size → ¬ A a → H1[a]? = H[a]?) : vEO g A U H1 := ⟨fun i hi => (h.1 i hi).kept hq, h.2.kept hq⟩
theorem vEO.narrow {g : Nat → ClassId} {A B : Nat → Prop} {U : State} {H : Heap} (h : vEO g A U H) (hAB : ∀ q, B q → A q) : vEO g B U H := ⟨fun i hi => (h.1 i hi).narrow hAB, h.2.narrow hAB⟩
/-- addresses by g: 20 VERBS, 21 the switch's map, 22 DigitOnes, 23 DigitTens, 100.. the verbs, 200.. the texts, 300.. their bytes -/
def ES (g : Nat → ClassId) (A : Nat → Prop) (U : State) (H : Heap) : Prop :=
  vx_Zq Bundle.tN "UNASSIGNED_STACK" Bundle.steD A U H ∧ vx_Zq Bundle.tN "SUPPRESSED_SENTINEL" Bundle.listD A U H ∧
  vEO g A U H ∧ va_Z RX12 "VERBS" "[LWireCutter$Verb;" (.ref (g 20)) A U H ∧ va_T (.object RX10) (g 20) 10 (fun i => .ref (g (100 + i))) A U H ∧
  va_Ef 10 RX10 "word" "Ljava/lang/String;" (fun i => .ref (g (200 + wIx.getD i 0))) (fun i => g (100 + i)) A U H ∧ va_Ef 10 RX10 "parts" "Ljava/lang/String;" (fun i => .ref (g (200 + pIx.getD i 0))) (fun i => g (100 + i)) A U H ∧
  vk_S 16 stL stB (fun i => g (200 + i)) (fun i => g (300 + i)) A U H ∧ va_Z RX0 "$SwitchMap$WireCutter$Verb" "[I" (.ref (g 21)) A U H ∧ va_T .int (g 21) 10 (fun i => .int (Int32.ofNat (i + 1))) A U H ∧
  va_Z "java/lang/String" "COMPACT_STRINGS" "Z" (.int 1) A U H ∧ va_Z "java/lang/Integer" "DigitOnes" "[B" (.ref (g 22)) A U H ∧ va_T .byte (g 22) 100 (fun i => .int (dOnes i)) A U H ∧ va_Z "java/lang/Integer" "DigitTens" "[B" (.ref (g 23)) A U H ∧ va_T .byte (g 23) 100 (fun i => .int (dTens i)) A U H ∧
  va_Zq "jdk/internal/util/Preconditions" "SIOOBE_FORMATTER" "Ljava/util/function/BiFunction;" A U H
def EX (g : Nat → ClassId) (A : Nat → Prop) (U : State) (H : Heap) : Prop := ES g A U H ∧ ER U
theorem ES.moved {g : Nat → ClassId} {A : Nat → Prop} {u U : State} {H : Heap} (hvm : u.vm.Alike U.vm) (h : ES g A u H) : ES g A U H := by
  obtain ⟨h1, h2, h3, h4, h5, h6, h7, h8, h9, h10, h11, h12, h13, h14, h15, h16⟩ := h
  exact ⟨vx_Zq.moved hvm h1, vx_Zq.moved hvm h2, vEO.moved hvm h3, va_Z.moved hvm h4, va_T.moved hvm h5, va_Ef.moved hvm h6, va_Ef.moved hvm h7, vk_S.moved hvm h8, va_Z.moved hvm h9, va_T.moved hvm h10, va_Z.moved hvm h11, va_Z.moved hvm h12, va_T.moved hvm h13, va_Z.moved hvm h14, va_T.moved hvm h15, va_Zq.moved hvm h16⟩
theorem ES.kept {g : Nat → ClassId} {A : Nat → Prop} {U : State} {H H1 : Heap} (h : ES g A U H) (hq : ∀ a : Nat, a < H.size → ¬ A a → H1[a]? = H[a]?) : ES g A U H1 := by
  obtain ⟨h1, h2, h3, h4, h5, h6, h7, h8, h9, h10, h11, h12, h13, h14, h15, h16⟩ := h
  exact ⟨h1.kept hq, h2.kept hq, h3.kept hq, h4.kept hq, h5.kept hq, h6.kept hq, h7.kept hq, h8.kept hq, h9.kept hq, h10.kept hq, h11.kept hq, h12.kept hq, h13.kept hq, h14.kept hq, h15.kept hq, h16.kept hq⟩
theorem ES.narrow {g : Nat → ClassId} {A B : Nat → Prop} {U : State} {H : Heap} (h : ES g A U H) (hAB : ∀ q, B q → A q) : ES g B U H := by
  obtain ⟨h1, h2, h3, h4, h5, h6, h7, h8, h9, h10, h11, h12, h13, h14, h15, h16⟩ := h
  exact ⟨h1.narrow hAB, h2.narrow hAB, h3.narrow hAB, h4.narrow hAB, h5.narrow hAB, h6.narrow hAB, h7.narrow hAB, h8.narrow hAB, h9.narrow hAB, h10.narrow hAB, h11.narrow hAB, h12.narrow hAB, h13.narrow hAB, h14.narrow hAB, h15.narrow hAB, h16.narrow hAB⟩
theorem EX.moved {g : Nat → ClassId} {A : Nat → Prop} {s U : State} {H : Heap} (hW : s.WarmedH U.vm) (h : EX g A s H) : EX g A U H := ⟨ES.moved hW.alike h.1, ER.warm hW h.2⟩
theorem EX.at {g : Nat → ClassId} {A : Nat → Prop} {s : State} {H : Heap} {locs : List Loc} (h : EX g A s s.heap) (hS : va_S A s.heap H locs) : EX g A s H := ⟨h.1.kept hS.2.1, h.2⟩
theorem EX.narrow {g : Nat → ClassId} {A B : Nat → Prop} {U : State} {H : Heap} (h : EX g A U H) (hAB : ∀ q, B q → A q) : EX g B U H := ⟨h.1.narrow hAB, h.2⟩
theorem EX.calling {g : Nat → ClassId} {A : Nat → Prop} {U : State} {G : JFrame} {mk : MethodId} {a : Array Value} (h : EX g A U U.heap) : EX g A (U.calling G mk a) (U.calling G mk a).heap := ⟨ES.moved (u := U) (U := U.calling G mk a) (Vm.Alike.refl U.vm) h.1, ER.vm (s := U) (U := U.calling G mk a) rfl h.2⟩
/-- the environment, of a method that writes nothing -/
abbrev EXr (g : Nat → ClassId) (U : State) : Prop := EX g (fun _ => False) U U.heap
abbrev wU (y : MethodName) (bytes : ByteArray) (maxL : Nat) (ret : Option FieldType) : List Cond := Cond.code y bytes maxL ret :: lw_U
theorem gU {y : MethodName} {bytes : ByteArray} {maxL : Nat} {ret : Option FieldType} (h : Cond.code y bytes maxL ret ∈ lw_U) : GoodIn lw_U (wU y bytes maxL ret) := by
  intro w hw
  have hm : w ∈ lw_U := by
    rcases List.mem_cons.mp hw with e | e
    · rw [e]; exact h
    · exact e
  exact ⟨hm, good_of_word (List.mem_filter.mp hm).2⟩
/-- what the tables say of a method that is called: on an object, or statically -/
abbrev MB (y : MethodName) (bytes : ByteArray) (maxL : Nat) (ret : Option FieldType) (n : Nat) : Prop := Cond.code y bytes maxL ret ∈ lw_U ∧ Cond.initialized y.cls ∈ lw_U ∧ (y.cls ≠ "java/lang/invoke/MethodHandle" ∧ y.cls ≠ "java/lang/invoke/VarHandle" ∧ (parseMethodDescriptor y.desc).map (fun d => d.parameters.length) = some n)
abbrev MV (y : MethodName) (bytes : ByteArray) (maxL : Nat) (ret : Option FieldType) (n : Nat) : Prop := MB y bytes maxL ret n ∧ Cond.instanceMethod y ∈ lw_U ∧ Cond.selects y.cls y y ∈ lw_U
abbrev MS (y : MethodName) (bytes : ByteArray) (maxL : Nat) (ret : Option FieldType) (n : Nat) : Prop := MB y bytes maxL ret n ∧ Cond.static y ∈ lw_U
/-- a method that writes nothing: its answer is rv -/
def RO (l : Launch) (y : MethodName) (bytes : ByteArray) (maxL : Nat) (ret : Option FieldType) (fr lo : Nat) (dC : Nat → ClassId) (dI : Nat → Nat → Nat) (g : Nat → ClassId) (av : List Value) (ws : va_W) (rv : Option Value) : Prop :=
  Met l y (wU y bytes maxL ret) { frames := fr, cells := 0, slots := 0, locals := lo } (va_Pc av (fun U => EK dC dI g U ∧ EXr g U ∧ va_P (dC, dI) vwCl ws U.heap)) (fun _ st o t => o = .returned rv ∧ t.heap = st.heap) 0 0 (fun _ => False)
/-- a method that writes its own world ws: it is ws' then -/
def MU (l : Launch) (y : MethodName) (bytes : ByteArray) (maxL : Nat) (ret : Option FieldType) (fr lo mc ms : Nat) (dC : Nat → ClassId) (dI : Nat → Nat → Nat) (g : Nat → ClassId) (av : List Value) (ws ws' : va_W) (rv : Option Value) : Prop :=
  ∀ sz, Met l y (wU y bytes maxL ret) { frames := fr, cells := mc, slots := ms, locals := lo } (va_Pc av (fun U => U.heap.size = sz ∧ EK dC dI g U ∧ EX g (va_A ws sz) U U.heap ∧ va_P (dC, dI) vwCl ws U.heap ∧ va_D (fun _ => True) ws)) (fun _ st o t => o = .returned rv ∧ va_P (dC, dI) vwCl ws' t.heap ∧ va_F (va_A ws sz) st t) mc ms (va_A ws sz)
section
variable {l : Launch} {y : MethodName} {bytes : ByteArray} {maxL : Nat} {ret : Option FieldType} {fr lo mc ms : Nat} {dC : Nat → ClassId} {dI : Nat → Nat → Nat} {g : Nat → ClassId} {av : List Value} {ws ws' : va_W} {rv : Option Value}
abbrev CF (p : Program) (m : MethodId) (c : Code) (cc : ByteArray) (nL : Nat) (s : State) (args : Array Value) (own : String) : Prop := CallFix p m c cc nL s args lw_U own
theorem RO_of (hy : plainName y.cls = true) (hm : (lg_sl av).length ≤ maxL)
    (body : ∀ (p : Program) (e : Env) (s : State) (m : MethodId) (below : List Frame) (meth : Method) (c : Code) (ls : Array Slot), CF p m c bytes maxL s av.toArray y.cls → meth.sig.returnType = ret → meth.locks = false → EK dC dI g s → EXr g s → va_P (dC, dI) vwCl ws s.heap → lv_has ls maxL (lv_args 0 av) →
      W p l e { frames := fr, cells := 0, slots := 0, locals := lo } s m av.toArray below meth c s.heap [] 0 0 (MQ below (fun _ st o t => o = .returned rv ∧ t.heap = st.heap) av.toArray s 0 0 (fun _ => False)) (F0 m 0 ls [])) : RO l y bytes maxL ret fr lo dC dI g av ws rv := by
  unfold RO
  refine Met.ofW (cc := bytes) (maxL := maxL) (ret := ret) hy rfl ?_
  intro p e s m args below meth c s₁ B hml hv
  obtain ⟨rfl, hE, hX, hP⟩ := hv
  have hts := atoms_spec (ws := wU y bytes maxL ret) B.pre
  rw [lg_entry_eq]
  exact body p e s m below meth c _ ⟨B.exec, B.bytes, hml, findClass_of_methodNamed B.named, fun w h => hts w (List.mem_cons_of_mem _ h)⟩ B.returns B.notSynchronized hE hX hP (lv_entry av hm)
theorem MU_of (hy : plainName y.cls = true) (hm : (lg_sl av).length ≤ maxL)
    (body : ∀ (p : Program) (e : Env) (s : State) (m : MethodId) (below : List Frame) (meth : Method) (c : Code) (ls : Array Slot), CF p m c bytes maxL s av.toArray y.cls → meth.sig.returnType = ret → meth.locks = false → EK dC dI g s → EX g (va_A ws s.heap.size) s s.heap → (∀ q : Nat, s.heap.size ≤ q → va_A ws s.heap.size q) → va_P (dC, dI) vwCl ws s.heap → va_D (va_A ws s.heap.size) ws → va_S (va_A ws s.heap.size) s.heap s.heap [] → lv_has ls maxL (lv_args 0 av) →
      W p l e { frames := fr, cells := mc, slots := ms, locals := lo } s m av.toArray below meth c s.heap [] 0 0 (MQ below (fun _ st o t => o = .returned rv ∧ va_P (dC, dI) vwCl ws' t.heap ∧ va_F (va_A ws s.heap.size) st t) av.toArray s mc ms (va_A ws s.heap.size)) (F0 m 0 ls [])) : MU l y bytes maxL ret fr lo mc ms dC dI g av ws ws' rv := by
  unfold MU
  intro sz
  refine Met.ofW (cc := bytes) (maxL := maxL) (ret := ret) hy rfl ?_
  intro p e s m args below meth c s₁ B hml hv
  obtain ⟨rfl, hsz, hE, hX, hP, hD⟩ := hv
  subst hsz
  have hts := atoms_spec (ws := wU y bytes maxL ret) B.pre
  rw [lg_entry_eq]
  exact body p e s m below meth c _ ⟨B.exec, B.bytes, hml, findClass_of_methodNamed B.named, fun w h => hts w (List.mem_cons_of_mem _ h)⟩ B.returns B.notSynchronized hE hX (fun q h => Or.inr h) hP hD.self va_S.rf (lv_entry av hm)
end
/-! ends -/
section
variable {p : Program} {l : Launch} {e : Env} {R : Room} {s : State} {m : MethodId} {args : Array Value} {below : List Frame} {meth : Method} {c : Code} {H : Heap} {locs : List Loc} {cells slots mc ms : Nat} {pc : Nat} {ls : Array Slot} {cc : ByteArray} {nL : Nat} {own : String} {dC : Nat → ClassId} {dI : Nat → Nat → Nat} {ws' : va_W} {A : Nat → Prop}
theorem RO_i {v : Int32} (F : CF p m c cc nL s args own) (hr : meth.sig.returnType = some .int) (hlocks : meth.locks = false) (hdg : decode cc pc = .ok (.ireturn, 1)) : W p l e R s m args below meth c s.heap [] 0 0 (MQ below (fun _ st o t => o = .returned (some (.int v)) ∧ t.heap = st.heap) args s 0 0 (fun _ => False)) (F0 m pc ls [.int v]) :=
  W.iret F.1 F.2.1 hr (fun _ ht _ => ⟨rfl, ht⟩) (fun _ h => absurd h List.not_mem_nil) hdg
theorem RO_z {v : Int32} {ty : FieldType} (F : CF p m c cc nL s args own) (hr : meth.sig.returnType = some ty) (hlocks : meth.locks = false) (hn : narrow ty (.int v) = .int v) (hdg : decode cc pc = .ok (.ireturn, 1)) : W p l e R s m args below meth c s.heap [] 0 0 (MQ below (fun _ st o t => o = .returned (some (.int v)) ∧ t.heap = st.heap) args s 0 0 (fun _ => False)) (F0 m pc ls [.int v]) :=
  W.zret F.1 F.2.1 hr hn (fun _ ht _ => ⟨rfl, ht⟩) (fun _ h => absurd h List.not_mem_nil) hdg
theorem RO_l {v : Int64} (F : CF p m c cc nL s args own) (hr : meth.sig.returnType = some .long) (hlocks : meth.locks = false) (hdg : decode cc pc = .ok (.lreturn, 1)) : W p l e R s m args below meth c s.heap [] 0 0 (MQ below (fun _ st o t => o = .returned (some (.long v)) ∧ t.heap = st.heap) args s 0 0 (fun _ => False)) (F0 m pc ls [.long v]) :=
  W.lret F.1 F.2.1 hr (fun _ ht _ => ⟨rfl, ht⟩) (fun _ h => absurd h List.not_mem_nil) hdg
theorem RO_v (F : CF p m c cc nL s args own) (hr : meth.sig.returnType = none) (hlocks : meth.locks = false) (hdg : decode cc pc = .ok (.return_, 1)) : W p l e R s m args below meth c s.heap [] 0 0 (MQ below (fun _ st o t => o = .returned none ∧ t.heap = st.heap) args s 0 0 (fun _ => False)) (F0 m pc ls []) :=
  W.vret F.1 F.2.1 hr (fun _ ht _ => ⟨rfl, ht⟩) (fun _ h => absurd h List.not_mem_nil) hdg
theorem MU_i {v : Int32} (F : CF p m c cc nL s args own) (hr : meth.sig.returnType = some .int) (hlocks : meth.locks = false) (hc : cells ≤ mc) (hs : slots ≤ ms) (hP : va_P (dC, dI) vwCl ws' H) (hS : va_S A s.heap H locs) (hdg : decode cc pc = .ok (.ireturn, 1)) : W p l e R s m args below meth c H locs cells slots (MQ below (fun _ st o t => o = .returned (some (.int v)) ∧ va_P (dC, dI) vwCl ws' t.heap ∧ va_F A st t) args s mc ms A) (F0 m pc ls [.int v]) :=
  W.widen hc hs (W.iret F.1 F.2.1 hr (fun _ ht _ => ⟨rfl, by rw [ht]; exact hP, hS.F ht⟩) hS.2.2 hdg)
theorem MU_z {v : Int32} {ty : FieldType} (F : CF p m c cc nL s args own) (hr : meth.sig.returnType = some ty) (hlocks : meth.locks = false) (hc : cells ≤ mc) (hs : slots ≤ ms) (hn : narrow ty (.int v) = .int v) (hP : va_P (dC, dI) vwCl ws' H) (hS : va_S A s.heap H locs) (hdg : decode cc pc = .ok (.ireturn, 1)) : W p l e R s m args below meth c H locs cells slots (MQ below (fun _ st o t => o = .returned (some (.int v)) ∧ va_P (dC, dI) vwCl ws' t.heap ∧ va_F A st t) args s mc ms A) (F0 m pc ls [.int v]) :=
  W.widen hc hs (W.zret F.1 F.2.1 hr hn (fun _ ht _ => ⟨rfl, by rw [ht]; exact hP, hS.F ht⟩) hS.2.2 hdg)
theorem MU_l {v : Int64} (F : CF p m c cc nL s args own) (hr : meth.sig.returnType = some .long) (hlocks : meth.locks = false) (hc : cells ≤ mc) (hs : slots ≤ ms) (hP : va_P (dC, dI) vwCl ws' H) (hS : va_S A s.heap H locs) (hdg : decode cc pc = .ok (.lreturn, 1)) : W p l e R s m args below meth c H locs cells slots (MQ below (fun _ st o t => o = .returned (some (.long v)) ∧ va_P (dC, dI) vwCl ws' t.heap ∧ va_F A st t) args s mc ms A) (F0 m pc ls [.long v]) :=
  W.widen hc hs (W.lret F.1 F.2.1 hr (fun _ ht _ => ⟨rfl, by rw [ht]; exact hP, hS.F ht⟩) hS.2.2 hdg)
theorem MU_v (F : CF p m c cc nL s args own) (hr : meth.sig.returnType = none) (hlocks : meth.locks = false) (hc : cells ≤ mc) (hs : slots ≤ ms) (hP : va_P (dC, dI) vwCl ws' H) (hS : va_S A s.heap H locs) (hdg : decode cc pc = .ok (.return_, 1)) : W p l e R s m args below meth c H locs cells slots (MQ below (fun _ st o t => o = .returned none ∧ va_P (dC, dI) vwCl ws' t.heap ∧ va_F A st t) args s mc ms A) (F0 m pc ls []) :=
  W.widen hc hs (W.vret F.1 F.2.1 hr (fun _ ht _ => ⟨rfl, by rw [ht]; exact hP, hS.F ht⟩) hS.2.2 hdg)
end
/-! behind a call that writes: some of the caller's cells have new contents, at their places -/
def setAll (ws : va_W) : List Nat → va_W → va_W
  | [], _ => ws
  | _ :: _, [] => ws
  | i :: is, x :: xs => setAll (ws.set i x) is xs
theorem setAll_get : ∀ (is : List Nat) (ws w1 : va_W) (k : Nat) (q : Nat × va_E), (setAll ws is w1)[k]? = some q → (∃ j : Nat, w1[j]? = some q ∧ is[j]? = some k) ∨ (ws[k]? = some q ∧ ∀ j : Nat, is[j]? = some k → w1.length ≤ j)
  | [], ws, w1, k, q, h => Or.inr ⟨by simpa only [setAll] using h, fun j hj => by simp at hj⟩
  | i :: is, ws, [], k, q, h => Or.inr ⟨by simpa only [setAll] using h, fun j _ => Nat.zero_le j⟩
  | i :: is, ws, x :: xs, k, q, h => by
    rw [setAll] at h
    rcases setAll_get is (ws.set i x) xs k q h with ⟨j, h1, h2⟩ | ⟨h1, h2⟩
    · exact Or.inl ⟨j + 1, by simpa using h1, by simpa using h2⟩
    · by_cases hk : k = i
      · subst hk
        have hl : k < (ws.set k x).length := (List.getElem?_eq_some_iff.mp h1).1
        rw [List.length_set] at hl
        rw [List.getElem?_set_self hl] at h1
        exact Or.inl ⟨0, by simpa using h1, by simp⟩
      · rw [List.getElem?_set_ne (Ne.symm hk)] at h1
        refine Or.inr ⟨h1, fun j hj => ?_⟩
        cases j with
        | zero => exact absurd (by simpa using hj : i = k).symm hk
        | succ j => exact Nat.succ_le_succ (h2 j (by simpa using hj))
theorem wj {A0 : Nat → Prop} {D : va_G} {cl : List vw_C} {ws wc w1 ws' : va_W} {H H1 : Heap} (hP : va_P D cl ws H) (hD : va_D A0 ws) (is : List Nat) (hC : is.map (fun i => ws[i]?) = wc.map some) (ha : w1.map Prod.fst = wc.map Prod.fst)
    (hk : ∀ q : Nat, q < H.size → ¬ va_A wc H.size q → H1[q]? = H[q]?) (hP1 : va_P D cl w1 H1) (hj : setAll ws is w1 = ws') : va_P D cl ws' H1 ∧ va_D A0 ws' := by
  subst hj
  have hlen : is.length = wc.length := by have := congrArg List.length hC; simpa using this
  have hlen1 : w1.length = wc.length := by have := congrArg List.length ha; simpa using this
  have at1 : ∀ (j : Nat) (q : Nat × va_E), w1[j]? = some q → ∃ (i : Nat) (q0 : Nat × va_E), is[j]? = some i ∧ ws[i]? = some q0 ∧ wc[j]? = some q0 ∧ q0.1 = q.1 := by
    intro j q hq
    have h1 : (w1.map Prod.fst)[j]? = some q.1 := by rw [List.getElem?_map, hq]; rfl
    rw [ha, List.getElem?_map] at h1
    cases hw : wc[j]? with
    | none => rw [hw] at h1; cases h1
    | some q0 =>
      rw [hw] at h1
      have h2 : (is.map (fun i => ws[i]?))[j]? = some (some q0) := by rw [hC, List.getElem?_map, hw]; rfl
      rw [List.getElem?_map] at h2
      cases hi : is[j]? with
      | none => rw [hi] at h2; cases h2
      | some i => rw [hi] at h2; exact ⟨i, q0, rfl, Option.some.inj h2, rfl, Option.some.inj h1⟩
  have key : ∀ (k : Nat) (q : Nat × va_E), (setAll ws is w1)[k]? = some q → ∃ q0, ws[k]? = some q0 ∧ q0.1 = q.1 := by
    intro k q hq
    rcases setAll_get is ws w1 k q hq with ⟨j, h1, h2⟩ | ⟨h1, -⟩
    · obtain ⟨i, q0, g1, g2, -, g4⟩ := at1 j q h1
      cases Option.some.inj (g1.symm.trans h2)
      exact ⟨q0, g2, g4⟩
    · exact ⟨q, h1, rfl⟩
  refine ⟨fun k q hq => ?_, fun i j x z hi hj hxz => ?_, fun k q hq => ?_⟩
  · rcases setAll_get is ws w1 k q hq with ⟨j, h1, -⟩ | ⟨h1, h2⟩
    · exact hP1 j q h1
    · refine (hP k q h1).kept (hk q.1 (hP k q h1).lt (fun h => ?_))
      rcases h with ⟨j, e0, h⟩ | h
      · have h3 : (is.map (fun i => ws[i]?))[j]? = some (some (q.1, e0)) := by rw [hC, List.getElem?_map, h]; rfl
        rw [List.getElem?_map] at h3
        cases hi : is[j]? with
        | none => rw [hi] at h3; cases h3
        | some i =>
          rw [hi] at h3
          have h4 : ws[i]? = some (q.1, e0) := Option.some.inj h3
          have h5 := hD.1 k i q (q.1, e0) h1 h4 rfl
          subst h5
          have h6 := h2 j hi
          have h7 : j < wc.length := (List.getElem?_eq_some_iff.mp h).1
          omega
      · exact absurd (hP k q h1).lt (Nat.not_lt.mpr h)
  · obtain ⟨x0, g1, g2⟩ := key i x hi
    obtain ⟨z0, g3, g4⟩ := key j z hj
    exact hD.1 i j x0 z0 g1 g3 (g2.trans (hxz.trans g4.symm))
  · obtain ⟨q0, g1, g2⟩ := key k q hq
    rw [← g2]
    exact hD.2 k q0 g1
/-! calls -/
section
variable {p : Program} {l : Launch} {e : Env} {R : Room} {s : State} {m : MethodId} {args : Array Value} {below : List Frame} {meth : Method} {c : Code} {H : Heap} {locs : List Loc} {cells slots : Nat} {Q : State → Prop} {pc : Nat} {ls : Array Slot} {st rest : List Value}
variable {cc bytes : ByteArray} {nL maxL index n fr lo mc ms b ci i0 : Nat} {own : String} {y : MethodName} {ret : Option FieldType} {dC : Nat → ClassId} {dI : Nat → Nat → Nat} {g : Nat → ClassId} {As : List Value} {ws wc w1 ws' : va_W} {A : Nat → Prop} {fs : List Value} {T : u_T} {N : Nat} {rv : Option Value}
theorem clRO {a : Array Value} (hr : va_Run p l e R s m args below meth c H locs cells slots 0 0 (F0 m pc ls st) rest (fun st o t => o = .returned rv ∧ t.heap = st.heap) (fun _ => False))
    (kk : W p l e R s m args below meth c H locs cells slots Q (F0 m (pc + 3) ls (rv.toList ++ rest))) : W p l e R s m args below meth c H locs cells slots Q (F0 m pc ls st) := by
  intro T hT X
  obtain ⟨v, st₀, t, T', L, h0, X', hL, e1, -, ⟨hv, hh⟩, st⟩ := hr T hT X
  cases hv
  obtain ⟨t2, a1, b1⟩ := kk T' (by rw [e1, hh, h0]) (Stand.forget X' (fun q h => (hL q h).elim))
  exact ⟨t2, st t2 a1, b1⟩
theorem clMU (hr : va_Run p l e R s m args below meth c H locs cells slots mc ms (F0 m pc ls st) rest (fun st o t => o = .returned rv ∧ va_P (dC, dI) vwCl w1 t.heap ∧ va_F (va_A wc H.size) st t) (va_A wc H.size)) (hP : va_P (dC, dI) vwCl ws H) (hD : va_D A ws) (hS : va_S A s.heap H locs) (hA : ∀ q : Nat, s.heap.size ≤ q → A q) (is : List Nat) (hC : is.map (fun i => ws[i]?) = wc.map some) (ha : w1.map Prod.fst = wc.map Prod.fst) (hj : setAll ws is w1 = ws')
    (kk : ∀ (H1 : Heap) (locs1 : List Loc), va_P (dC, dI) vwCl ws' H1 → va_D A ws' → va_S A s.heap H1 locs1 → W p l e R s m args below meth c H1 locs1 (cells + mc) (slots + ms) Q (F0 m (pc + 3) ls (rv.toList ++ rest))) : W p l e R s m args below meth c H locs cells slots Q (F0 m pc ls st) := by
  intro T hT X
  obtain ⟨v, st₀, t, T', L, h0, X', hL, e1, -, ⟨hv, hp1, hz, hk⟩, st⟩ := hr T hT X
  cases hv
  rw [h0] at hz hk
  rw [← e1] at hp1 hz hk
  have hF := va_free (wc := wc) hD hS hA is hC
  obtain ⟨hP', hD'⟩ := wj hP hD is hC ha hk hp1 hj
  obtain ⟨t2, a1, b1⟩ := kk T'.heap (locs ++ L) hP' hD'
    ⟨Nat.le_trans hS.1 hz, fun q h1 h2 => by rw [hk q (Nat.lt_of_lt_of_le h1 hS.1) (fun z => h2 (hF q z))]; exact hS.2.1 q h1 h2, fun q hq => by
      rcases List.mem_append.mp hq with h | h
      · exact hS.2.2 q h
      · exact hF _ (hL q h)⟩ T' rfl X'
  exact ⟨t2, st t2 a1, b1⟩
theorem mbB {ws' : List Cond} {rm : Room} (F : CF p m c cc nL s args own) (mv : MB y bytes maxL ret n) (hl : Cond.methodLink own index y ∈ lw_U) (hrc : rm.cells = mc) (hrs : rm.slots = ms) (hR : rm.frames + 1 ≤ R.frames ∧ 8 + (maxL + 11) + rm.locals ≤ R.locals) : CallB R s args own index y bytes maxL ret (wU y bytes maxL ret) rm mc ms n :=
  callB_of (Ts := lw_U) n F.2.2.2.2 (gU mv.1) rfl hrc hrs (F.2.2.2.2 _ mv.2.1) (F.2.2.2.2 _ hl) mv.2.2 hR
theorem rcv {i0 : Nat} (hE : EK dC dI g s) (hP : va_P (dC, dI) vwCl ws H) (h0 : ws[i0]? = some (b, .inr (ci, fs))) {C : String} (hc : vwCl[ci]? = some (C, T, N)) : ∃ cell : Cell, H[b]? = some cell ∧ cell.vm.isStatics = false ∧ s.vm.findClass C = some cell.cls := va_recv hE.1 hP hc h0
/-- a call on an object, of a method that reads -/
theorem cRV (F : CF p m c cc nL s args own) (hE : EK dC dI g s) (hX : EX g A s s.heap) (hS : va_S A s.heap H locs) (M : RO l y bytes maxL ret fr lo dC dI g (.ref b :: As) wc rv) (mv : MV y bytes maxL ret n) (hl : Cond.methodLink own index y ∈ lw_U) (hR : fr + 1 ≤ R.frames ∧ 8 + (maxL + 11) + lo ≤ R.locals) (hf : cells ≤ R.cells ∧ slots ≤ R.slots)
    (hP : va_P (dC, dI) vwCl ws H) (is : List Nat) (hs : is.filterMap (fun i => ws[i]?) = wc) (i0 : Nat) (h0 : ws[i0]? = some (b, .inr (ci, fs))) (hc : vwCl[ci]? = some (y.cls, T, N)) (hn : As.length = n) (hls : ls.size = nL) (hst : st = As.reverse ++ .ref b :: rest) (hW : (rest.map fun v => v.category).sum ≤ 8) (hdg : decode cc pc = .ok (.invokevirtual index, 3))
    (kk : W p l e R s m args below meth c H locs cells slots Q (F0 m (pc + 3) ls (rv.toList ++ rest))) : W p l e R s m args below meth c H locs cells slots Q (F0 m pc ls st) := by
  have hPc := hP.sub (ws' := wc) is hs
  unfold RO at M
  exact clRO (a := (Value.ref b :: As).toArray) (va_runV F M ⟨mbB (ws' := lw_U) F mv.1 hl rfl rfl hR, F.2.2.2.2 _ mv.2.1, F.2.2.2.2 _ mv.2.2⟩ ⟨fun a U G mk q => ⟨q.1, q.2.1.calling, q.2.2.1.calling, q.2.2.2⟩, rcv hE hP h0 hc, fun U hU hW => ⟨rfl, hE.warm hW, by show EX g (fun _ => False) U U.heap; rw [hU]; exact ((hX.at hS).narrow (fun _ h => h.elim)).moved hW, by rw [hU]; exact hPc⟩⟩ rfl hn hls hst (lv_room hW) hdg ⟨by rw [Nat.add_zero]; exact hf.1, by rw [Nat.add_zero]; exact hf.2⟩) kk
/-- a static call, of a method that reads -/
theorem cRS (F : CF p m c cc nL s args own) (hE : EK dC dI g s) (hX : EX g A s s.heap) (hS : va_S A s.heap H locs) (M : RO l y bytes maxL ret fr lo dC dI g As wc rv) (mv : MS y bytes maxL ret n) (hl : Cond.methodLink own index y ∈ lw_U) (hR : fr + 1 ≤ R.frames ∧ 8 + (maxL + 11) + lo ≤ R.locals) (hf : cells ≤ R.cells ∧ slots ≤ R.slots)
    (hP : va_P (dC, dI) vwCl ws H) (is : List Nat) (hs : is.filterMap (fun i => ws[i]?) = wc) (hn : As.length = n) (hls : ls.size = nL) (hst : st = As.reverse ++ rest) (hW : (rest.map fun v => v.category).sum ≤ 8) (hdg : decode cc pc = .ok (.invokestatic index, 3))
    (kk : W p l e R s m args below meth c H locs cells slots Q (F0 m (pc + 3) ls (rv.toList ++ rest))) : W p l e R s m args below meth c H locs cells slots Q (F0 m pc ls st) := by
  have hPc := hP.sub (ws' := wc) is hs
  unfold RO at M
  exact clRO (a := As.toArray) (va_runS F M ⟨mbB (ws' := lw_U) F mv.1 hl rfl rfl hR, F.2.2.2.2 _ mv.2⟩ ⟨fun a U G mk q => ⟨q.1, q.2.1.calling, q.2.2.1.calling, q.2.2.2⟩, fun U hU hW => ⟨rfl, hE.warm hW, by show EX g (fun _ => False) U U.heap; rw [hU]; exact ((hX.at hS).narrow (fun _ h => h.elim)).moved hW, by rw [hU]; exact hPc⟩⟩ rfl hn hls hst (lv_room hW) hdg ⟨by rw [Nat.add_zero]; exact hf.1, by rw [Nat.add_zero]; exact hf.2⟩) kk
/-- a call on an object, of a method that writes -/
theorem cMV (F : CF p m c cc nL s args own) (hE : EK dC dI g s) (hX : EX g A s s.heap) (M : MU l y bytes maxL ret fr lo mc ms dC dI g (.ref b :: As) wc w1 rv) (mv : MV y bytes maxL ret n) (hl : Cond.methodLink own index y ∈ lw_U) (hR : fr + 1 ≤ R.frames ∧ 8 + (maxL + 11) + lo ≤ R.locals) (hf : cells + mc ≤ R.cells ∧ slots + ms ≤ R.slots)
    (hP : va_P (dC, dI) vwCl ws H) (hD : va_D A ws) (hS : va_S A s.heap H locs) (hA : ∀ q : Nat, s.heap.size ≤ q → A q) (is : List Nat) (hs : is.filterMap (fun i => ws[i]?) = wc) (hC : is.map (fun i => ws[i]?) = wc.map some) (hnd : va_nd is = true) (ha : w1.map Prod.fst = wc.map Prod.fst) (hj : setAll ws is w1 = ws') (i0 : Nat) (h0 : ws[i0]? = some (b, .inr (ci, fs))) (hc : vwCl[ci]? = some (y.cls, T, N)) (hn : As.length = n) (hls : ls.size = nL) (hst : st = As.reverse ++ .ref b :: rest) (hW : (rest.map fun v => v.category).sum ≤ 8) (hdg : decode cc pc = .ok (.invokevirtual index, 3))
    (kk : ∀ (H1 : Heap) (locs1 : List Loc), va_P (dC, dI) vwCl ws' H1 → va_D A ws' → va_S A s.heap H1 locs1 → W p l e R s m args below meth c H1 locs1 (cells + mc) (slots + ms) Q (F0 m (pc + 3) ls (rv.toList ++ rest))) : W p l e R s m args below meth c H locs cells slots Q (F0 m pc ls st) := by
  have hPc := hP.sub (ws' := wc) is hs
  have hDc := hD.sub (ws' := wc) is hnd hC
  unfold MU at M
  exact clMU (va_runV F (M H.size) ⟨mbB (ws' := lw_U) F mv.1 hl rfl rfl hR, F.2.2.2.2 _ mv.2.1, F.2.2.2.2 _ mv.2.2⟩ ⟨fun a U G mk q => ⟨q.1, q.2.1, q.2.2.1.calling, q.2.2.2.1.calling, q.2.2.2.2⟩, rcv hE hP h0 hc, fun U hU hW => ⟨rfl, by rw [hU], hE.warm hW, by rw [hU]; exact ((hX.at hS).narrow (va_free (wc := wc) hD hS hA is hC)).moved hW, by rw [hU]; exact hPc, hDc.weaken (fun _ _ _ _ => trivial)⟩⟩ rfl hn hls hst (lv_room hW) hdg hf) hP hD hS hA is hC ha hj kk
theorem cMS (F : CF p m c cc nL s args own) (hE : EK dC dI g s) (hX : EX g A s s.heap) (M : MU l y bytes maxL ret fr lo mc ms dC dI g As wc w1 rv) (mv : MS y bytes maxL ret n) (hl : Cond.methodLink own index y ∈ lw_U) (hR : fr + 1 ≤ R.frames ∧ 8 + (maxL + 11) + lo ≤ R.locals) (hf : cells + mc ≤ R.cells ∧ slots + ms ≤ R.slots)
    (hP : va_P (dC, dI) vwCl ws H) (hD : va_D A ws) (hS : va_S A s.heap H locs) (hA : ∀ q : Nat, s.heap.size ≤ q → A q) (is : List Nat) (hs : is.filterMap (fun i => ws[i]?) = wc) (hC : is.map (fun i => ws[i]?) = wc.map some) (hnd : va_nd is = true) (ha : w1.map Prod.fst = wc.map Prod.fst) (hj : setAll ws is w1 = ws') (hn : As.length = n) (hls : ls.size = nL) (hst : st = As.reverse ++ rest) (hW : (rest.map fun v => v.category).sum ≤ 8) (hdg : decode cc pc = .ok (.invokestatic index, 3))
    (kk : ∀ (H1 : Heap) (locs1 : List Loc), va_P (dC, dI) vwCl ws' H1 → va_D A ws' → va_S A s.heap H1 locs1 → W p l e R s m args below meth c H1 locs1 (cells + mc) (slots + ms) Q (F0 m (pc + 3) ls (rv.toList ++ rest))) : W p l e R s m args below meth c H locs cells slots Q (F0 m pc ls st) := by
  have hPc := hP.sub (ws' := wc) is hs
  have hDc := hD.sub (ws' := wc) is hnd hC
  unfold MU at M
  exact clMU (va_runS F (M H.size) ⟨mbB (ws' := lw_U) F mv.1 hl rfl rfl hR, F.2.2.2.2 _ mv.2⟩ ⟨fun a U G mk q => ⟨q.1, q.2.1, q.2.2.1.calling, q.2.2.2.1.calling, q.2.2.2.2⟩, fun U hU hW => ⟨rfl, by rw [hU], hE.warm hW, by rw [hU]; exact ((hX.at hS).narrow (va_free (wc := wc) hD hS hA is hC)).moved hW, by rw [hU]; exact hPc, hDc.weaken (fun _ _ _ _ => trivial)⟩⟩ rfl hn hls hst (lv_room hW) hdg hf) hP hD hS hA is hC ha hj kk
end
/-! partial functions: what the rows of a method compute -/
def FU : Nat := 4096
def inR (i : Int32) (n : Nat) : Bool := decide (¬ (i < 0 ∨ n ≤ i.toNatClampNeg))
theorem inR_in {i : Int32} {n : Nat} (h : inR i n = true) : vp_in i n := show ¬ (i < 0 ∨ n ≤ i.toNatClampNeg) from of_decide_eq_true h
def isB (v : Int32) : Bool := decide (v = 0 ∨ v = 1)
theorem isB_n {v : Int32} (h : isB v = true) : narrow .boolean (.int v) = .int v ∧ fits .boolean (.int v) = true := by
  rcases of_decide_eq_true h with rfl | rfl <;> exact ⟨rfl, rfl⟩
def isC (v : Int32) : Bool := decide (0 ≤ v.toInt ∧ v.toInt < 65536)
theorem isC_n {v : Int32} (h : isC v = true) : narrow .char (.int v) = .int v ∧ fits .char (.int v) = true := by
  obtain ⟨h1, h2⟩ := of_decide_eq_true h
  obtain ⟨j, hj, rfl⟩ := nI_of (x := v) (by rw [Int32.lt_iff_toInt_lt, Int32.toInt_zero]; omega)
  rw [nI_toInt hj] at h2
  exact pk_charN (by omega)
def ne0 (v : Int32) : Bool := decide (¬ v = 0)
def gd {α : Type} (b : Bool) (x : Option α) : Option α := if b = true then x else none
theorem gd_ok {α : Type} {b : Bool} {x : Option α} {r : α} (h : gd b x = some r) : b = true ∧ x = some r := by
  unfold gd at h
  split at h
  · exact ⟨by assumption, h⟩
  · cases h
theorem it_t {α : Type} {c : Prop} [Decidable c] {a b : Option α} {r : α} (hc : c) (h : (if c then a else b) = some r) : a = some r := by rwa [if_pos hc] at h
theorem it_f {α : Type} {c : Prop} [Decidable c] {a b : Option α} {r : α} (hc : ¬ c) (h : (if c then a else b) = some r) : b = some r := by rwa [if_neg hc] at h
theorem bd_ok {α β : Type} {x : Option α} {f : α → Option β} {r : β} (h : x.bind f = some r) : ∃ a, x = some a ∧ f a = some r := Option.bind_eq_some_iff.mp h
/-! fields: an own class's, or a nest mate's -/
section
variable {p : Program} {l : Launch} {e : Env} {R : Room} {s : State} {m : MethodId} {args : Array Value} {below : List Frame} {meth : Method} {c : Code} {H : Heap} {locs : List Loc} {cells slots : Nat} {Q : State → Prop} {pc : Nat} {ls : Array Slot} {rest : List Value}
variable {cc : ByteArray} {nL index a ci : Nat} {own C host : String} {dC : Nat → ClassId} {dI : Nat → Nat → Nat} {g : Nat → ClassId} {ws ws' : va_W} {A : Nat → Prop} {fs : List Value} {T : u_T} {N : Nat} {v : Value}
theorem gF (F : CF p m c cc nL s args own) (hE : EK dC dI g s) (hP : va_P (dC, dI) vwCl ws H) (q0 : Nat) (he : ws[q0]? = some (a, .inr (ci, fs))) (hc : vwCl[ci]? = some (C, T, N)) (hin : ∀ w ∈ u_ws C T N, w ∈ lw_U) (k : Nat) (hk : k < N) (hl : Cond.fieldLink own index (T k).1 (T k).2.1 (T k).2.2.1 ∈ lw_U) (hv : fs[k]? = some v) (hdg : decode cc pc = .ok (.getfield index, 3))
    (kk : W p l e R s m args below meth c H locs cells slots Q (F0 m (pc + 3) ls (v :: rest))) : W p l e R s m args below meth c H locs cells slots Q (F0 m pc ls (.ref a :: rest)) :=
  va_get (D := (dC, dI)) F.1 F.2.1 F.2.2.2.2 hin F.2.2.2.1 hE.1 hP q0 he hc k hk (F.2.2.2.2 _ hl) (fun _ h => h) hv hdg kk
theorem gFN (F : CF p m c cc nL s args own) (hE : EK dC dI g s) (hP : va_P (dC, dI) vwCl ws H) (q0 : Nat) (he : ws[q0]? = some (a, .inr (ci, fs))) (hc : vwCl[ci]? = some (C, T, N)) (hin : ∀ w ∈ u_ws C T N, w ∈ lw_U) (k : Nat) (hk : k < N) (hl : Cond.fieldLinkNest own index (T k).1 (T k).2.1 (T k).2.2.1 host ∈ lw_N) (hv : fs[k]? = some v) (hdg : decode cc pc = .ok (.getfield index, 3))
    (kk : W p l e R s m args below meth c H locs cells slots Q (F0 m (pc + 3) ls (v :: rest))) : W p l e R s m args below meth c H locs cells slots Q (F0 m pc ls (.ref a :: rest)) :=
  va_getN (D := (dC, dI)) F.1 F.2.1 F.2.2.2.2 hin F.2.2.2.1 hE.1 hP q0 he hc k hk (va_Nw.use rfl (hE.2 _ hl)) (fun _ h => h) hv hdg kk
theorem pF (F : CF p m c cc nL s args own) (hE : EK dC dI g s) (hP : va_P (dC, dI) vwCl ws H) (hD : va_D A ws) (hS : va_S A s.heap H locs) (q0 : Nat) (he : ws[q0]? = some (a, .inr (ci, fs))) (hc : vwCl[ci]? = some (C, T, N)) (hin : ∀ w ∈ u_ws C T N, w ∈ lw_U) (ty0 : Nat → FieldType) (hty : ∀ k, k < N → parseFieldDescriptor (T k).2.2.1 = some (ty0 k)) (hnm : ∀ a, a < N → ∀ b, b < N → a ≠ b → (T a).2.1 ≠ (T b).2.1) (k : Nat) (hk : k < N) (hl : Cond.fieldLink own index (T k).1 (T k).2.1 (T k).2.2.1 ∈ lw_U) (hfin : (T k).2.2.2 = false) (hn : narrow (ty0 k) v = v) (hfit : fits (ty0 k) v = true) (hlen : k < fs.length) (hdg : decode cc pc = .ok (.putfield index, 3))
    (kk : ∀ (H1 : Heap) (locs1 : List Loc), va_P (dC, dI) vwCl (ws.set q0 (a, .inr (ci, fs.set k v))) H1 → va_D A (ws.set q0 (a, .inr (ci, fs.set k v))) → va_S A s.heap H1 locs1 → W p l e R s m args below meth c H1 locs1 cells slots Q (F0 m (pc + 3) ls rest)) : W p l e R s m args below meth c H locs cells slots Q (F0 m pc ls (v :: .ref a :: rest)) :=
  va_put (D := (dC, dI)) F.1 F.2.1 F.2.2.2.2 hin ty0 hty hnm F.2.2.2.1 hE.1 hP hD hS q0 he hc k hk (F.2.2.2.2 _ hl) (fun _ h => h) hfin (hty k hk) hn hfit hlen hdg kk
theorem pFN (F : CF p m c cc nL s args own) (hE : EK dC dI g s) (hP : va_P (dC, dI) vwCl ws H) (hD : va_D A ws) (hS : va_S A s.heap H locs) (q0 : Nat) (he : ws[q0]? = some (a, .inr (ci, fs))) (hc : vwCl[ci]? = some (C, T, N)) (hin : ∀ w ∈ u_ws C T N, w ∈ lw_U) (ty0 : Nat → FieldType) (hty : ∀ k, k < N → parseFieldDescriptor (T k).2.2.1 = some (ty0 k)) (hnm : ∀ a, a < N → ∀ b, b < N → a ≠ b → (T a).2.1 ≠ (T b).2.1) (k : Nat) (hk : k < N) (hl : Cond.fieldLinkNest own index (T k).1 (T k).2.1 (T k).2.2.1 host ∈ lw_N) (hfin : (T k).2.2.2 = false) (hn : narrow (ty0 k) v = v) (hfit : fits (ty0 k) v = true) (hlen : k < fs.length) (hdg : decode cc pc = .ok (.putfield index, 3))
    (kk : ∀ (H1 : Heap) (locs1 : List Loc), va_P (dC, dI) vwCl (ws.set q0 (a, .inr (ci, fs.set k v))) H1 → va_D A (ws.set q0 (a, .inr (ci, fs.set k v))) → va_S A s.heap H1 locs1 → W p l e R s m args below meth c H1 locs1 cells slots Q (F0 m (pc + 3) ls rest)) : W p l e R s m args below meth c H locs cells slots Q (F0 m pc ls (v :: .ref a :: rest)) :=
  va_putN (D := (dC, dI)) F.1 F.2.1 F.2.2.2.2 hin ty0 hty hnm F.2.2.2.1 hE.1 hP hD hS q0 he hc k hk (va_Nw.use rfl (hE.2 _ hl)) (fun _ h => h) hfin (hty k hk) hn hfit hlen hdg kk
end
theorem lv_tableAny {p : Program} {l : Launch} {e : Env} {R : Room} {s : State} {m : MethodId} {args : Array Value} {below : List Frame} {meth : Method} {c : Code} {H : Heap} {locs : List Loc} {cells slots : Nat} {Q : State → Prop} {pc : Nat} {ls : Array Slot} {rest : List Value} {cc : ByteArray} (hexec : p.tables.exec = Jvm.exec) (hb : c.code = cc) {dflt lo hi : Int} {offs : Array Int} {len : Nat} {x : Int32} {tgt : Nat} (hdg : decode cc pc = .ok (.tableswitch dflt lo hi offs, len)) (ht : (pc : Int) + dflt = (tgt : Int)) (hin : ¬ x.toInt < lo → ¬ hi < x.toInt → offs[(x.toInt - lo).toNat]? = some dflt)
    (k : W p l e R s m args below meth c H locs cells slots Q (F0 m tgt ls rest)) : W p l e R s m args below meth c H locs cells slots Q (F0 m pc ls (.int x :: rest)) := by
  by_cases h1 : x.toInt < lo
  · exact lv_tableOut hexec hb hdg (Or.inl h1) ht k
  · by_cases h2 : hi < x.toInt
    · exact lv_tableOut hexec hb hdg (Or.inr h2) ht k
    · exact lv_tableIn hexec hb hdg h1 h2 (hin h1 h2) ht k
/-! arrays of numbers, the index as a Nat -/
section
variable {p : Program} {l : Launch} {e : Env} {R : Room} {s : State} {m : MethodId} {args : Array Value} {below : List Frame} {meth : Method} {c : Code} {H : Heap} {locs : List Loc} {cells slots : Nat} {Q : State → Prop} {pc : Nat} {ls : Array Slot} {rest : List Value}
variable {cc : ByteArray} {nL a n k : Nat} {own : String} {dC : Nat → ClassId} {dI : Nat → Nat → Nat} {g : Nat → ClassId} {ws : va_W} {A : Nat → Prop} {cA : ClassId} {f : Nat → Int32} {i x : Int32}
theorem aLi (F : CF p m c cc nL s args own) (hE : EK dC dI g s) (hP : va_P (dC, dI) vwCl ws H) (q0 t0 : Nat) (ha : ws[q0]? = some (a, .inl (cA, n, .inl f))) (ht : (TYs g)[t0]? = some (cA, .int)) (hin : inR i n = true) (hk : i.toNatClampNeg = k) (hdg : decode cc pc = .ok (.iaload, 1))
    (kk : W p l e R s m args below meth c H locs cells slots Q (F0 m (pc + 1) ls (.int (f k) :: rest))) : W p l e R s m args below meth c H locs cells slots Q (F0 m pc ls (.int i :: .ref a :: rest)) := by
  subst hk
  exact va_iald F.1 F.2.1 hE.1 hP q0 t0 ha ht (inR_in hin) hdg kk
theorem aLc (F : CF p m c cc nL s args own) (hE : EK dC dI g s) (hP : va_P (dC, dI) vwCl ws H) (q0 t0 : Nat) (ha : ws[q0]? = some (a, .inl (cA, n, .inl f))) (ht : (TYs g)[t0]? = some (cA, .char)) (hin : inR i n = true) (hk : i.toNatClampNeg = k) (hdg : decode cc pc = .ok (.caload, 1))
    (kk : W p l e R s m args below meth c H locs cells slots Q (F0 m (pc + 1) ls (.int (f k) :: rest))) : W p l e R s m args below meth c H locs cells slots Q (F0 m pc ls (.int i :: .ref a :: rest)) := by
  subst hk
  exact va_cald F.1 F.2.1 hE.1 hP q0 t0 ha ht (inR_in hin) hdg kk
theorem aSi (F : CF p m c cc nL s args own) (hE : EK dC dI g s) (hP : va_P (dC, dI) vwCl ws H) (hD : va_D A ws) (hS : va_S A s.heap H locs) (q0 t0 : Nat) (ha : ws[q0]? = some (a, .inl (cA, n, .inl f))) (ht : (TYs g)[t0]? = some (cA, .int)) (hin : inR i n = true) (hk : i.toNatClampNeg = k) (hdg : decode cc pc = .ok (.iastore, 1))
    (kk : ∀ (H1 : Heap) (locs1 : List Loc), va_P (dC, dI) vwCl (ws.set q0 (a, .inl (cA, n, .inl (upd f k x)))) H1 → va_D A (ws.set q0 (a, .inl (cA, n, .inl (upd f k x)))) → va_S A s.heap H1 locs1 → W p l e R s m args below meth c H1 locs1 cells slots Q (F0 m (pc + 1) ls rest)) : W p l e R s m args below meth c H locs cells slots Q (F0 m pc ls (.int x :: .int i :: .ref a :: rest)) := by
  subst hk
  exact va_iast F.1 F.2.1 hE.1 hP hD hS q0 t0 ha ht (inR_in hin) hdg kk
theorem aSc (F : CF p m c cc nL s args own) (hE : EK dC dI g s) (hP : va_P (dC, dI) vwCl ws H) (hD : va_D A ws) (hS : va_S A s.heap H locs) (q0 t0 : Nat) (ha : ws[q0]? = some (a, .inl (cA, n, .inl f))) (ht : (TYs g)[t0]? = some (cA, .char)) (hin : inR i n = true) (hk : i.toNatClampNeg = k) (hdg : decode cc pc = .ok (.castore, 1))
    (kk : ∀ (H1 : Heap) (locs1 : List Loc), va_P (dC, dI) vwCl (ws.set q0 (a, .inl (cA, n, .inl (upd f k (vp_nar .char x))))) H1 → va_D A (ws.set q0 (a, .inl (cA, n, .inl (upd f k (vp_nar .char x))))) → va_S A s.heap H1 locs1 → W p l e R s m args below meth c H1 locs1 cells slots Q (F0 m (pc + 1) ls rest)) : W p l e R s m args below meth c H locs cells slots Q (F0 m pc ls (.int x :: .int i :: .ref a :: rest)) := by
  subst hk
  exact va_cast F.1 F.2.1 hE.1 hP hD hS q0 t0 ha ht (inR_in hin) hdg kk
end
