/-! pure layer: the same letters on both sides; which verb stands at a place -/
theorem mtw_eq {l : Nat} {pt bu : Nat → Int32} (h : ∀ j, j < l → pt j = bu j) : ∀ (w : List Int32) (a : Nat), mtw l pt w a = mtw l bu w a := by
  intro w
  induction w with
  | nil => intro a; rfl
  | cons c w ih =>
    intro a
    rw [mtw, mtw, ih]
    by_cases g : atc l pt a c
    · rw [if_pos g, if_pos (show atc l bu a c from ⟨g.1, (h a g.1).symm.trans g.2⟩)]
    · rw [if_neg g, if_neg (fun q : atc l bu a c => g ⟨q.1, (h a q.1).trans q.2⟩)]
theorem mtw_l {l : Nat} {T : Nat → Int32} : ∀ (w : List Int32) (a : Nat), a ≤ l → a + mtw l T w a ≤ l := by
  intro w
  induction w with
  | nil => intro a h; simp only [mtw]; omega
  | cons c w ih =>
    intro a h
    rw [mtw]
    by_cases g : atc l T a c
    · have := ih (a + 1) g.1
      rw [if_pos g]; omega
    · rw [if_neg g]; exact h
theorem rdn_l {l : Nat} {T : Nat → Int32} : ∀ (d a : Nat) (v : Int32), a ≤ l → a + (rdn l T d a v).1 ≤ l := by
  intro d
  induction d with
  | zero => intro a v h; simp only [rdn]; omega
  | succ d ih =>
    intro a v h
    rw [rdn]
    by_cases g : dgt l T a
    · have := ih (a + 1) (10 * v + (T a - 48)) g.1
      rw [if_pos g]; show a + (_ + 1) ≤ l; omega
    · rw [if_neg g]; exact h
theorem mtc_eq {l a : Nat} {pt bu : Nat → Int32} (h : ∀ j, j < l → pt j = bu j) : mtc l pt a ↔ mtc l bu a :=
  ⟨fun g => ⟨g.1, by rw [← h a g.1]; exact g.2⟩, fun g => ⟨g.1, by rw [h a g.1]; exact g.2⟩⟩
theorem rlc_eq {l a : Nat} {pt bu : Nat → Int32} (h : ∀ j, j < l → pt j = bu j) : rlc l pt a ↔ rlc l bu a :=
  ⟨fun g => ⟨g.1, by rw [← h a g.1]; exact g.2⟩, fun g => ⟨g.1, by rw [h a g.1]; exact g.2⟩⟩
theorem wM_eq {l a : Nat} {pt bu : Nat → Int32} (h : ∀ j, j < l → pt j = bu j) : wM l pt a = wM l bu a := funext fun _ => mtw_eq h _ _
/-- the first letter of a verb -/
def w1 (k : Nat) : Int32 := (stB.getD (wIx.getD k 0) []).headD 0
theorem w1_c : ∀ k, k < 10 → stB.getD (wIx.getD k 0) [] = w1 k :: (stB.getD (wIx.getD k 0) []).tail := by decide +kernel
theorem wL_p : ∀ k, k < 10 → 4 ≤ wL k := by decide +kernel
theorem wM_0 {l a k : Nat} {T : Nat → Int32} (hk : k < 10) (h : ¬ atc l T a (w1 k)) : wM l T a k = 0 := by
  unfold wM; rw [w1_c k hk]; exact mtw_0 h
theorem wM_n {l a k : Nat} {T : Nat → Int32} {ch : Int32} (hk : k < 10) (h : atc l T a ch) (hc : w1 k ≠ ch) : wM l T a k = 0 := wM_0 hk fun q => hc (q.2.symm.trans h.2)
/-- what the class's look for a verb says where only verb i can stand -/
abbrev PV (l : Nat) (T : Nat → Int32) (a i : Nat) : Prop := pvb (wM l T a) wL 10 0 0 = if wM l T a i = wL i then (some i, wM l T a i) else (none, wM l T a i)
theorem pv_one {l a i : Nat} {T : Nat → Int32} (hi : i < 10) (ho : ∀ j, j < 10 → j ≠ i → w1 j ≠ w1 i) (h : atc l T a (w1 i)) : PV l T a i :=
  pvb_1 (Nat.zero_le _) 10 0 (Nat.zero_le _) (by omega) fun j _ hj hne => by
    have h0 := wM_n (T := T) (show j < 10 by omega) h (ho j (by omega) hne)
    have := wL_p j (by omega)
    exact ⟨Nat.le_of_eq h0, by omega⟩
theorem pv_nil {l a : Nat} {T : Nat → Int32} (h : ∀ j, j < 10 → ¬ atc l T a (w1 j)) : pvb (wM l T a) wL 10 0 0 = (none, 0) :=
  pvb_z 10 0 0 fun j _ hj => by
    have h0 := wM_0 (T := T) (show j < 10 by omega) (h j (by omega))
    have := wL_p j (by omega)
    exact ⟨by omega, Nat.le_of_eq h0⟩
/-- of two verbs with the same first letter: the one whose second letter stands there, or the later of the reference's two -/
theorem pv_lo {l a i i2 : Nat} {T : Nat → Int32} (hi : i < 10) (hi2 : i2 < 10) (hne : i < i2) (ho : ∀ j, j < 10 → j ≠ i → j ≠ i2 → w1 j ≠ w1 i) (h : atc l T a (w1 i)) (hm : wM l T a i2 ≤ wM l T a i) (hm2 : wM l T a i2 = 1) : PV l T a i :=
  pvb_3 hne hm (by have := wL_p i2 hi2; omega) 10 0 (Nat.zero_le _) (by omega) fun j _ hj h1 h2 => by
    have h0 := wM_n (T := T) (show j < 10 by omega) h (ho j (by omega) h1 h2)
    have := wL_p j (by omega)
    exact ⟨h0, by omega⟩
theorem pv_hi {l a i i2 : Nat} {T : Nat → Int32} (hi : i < 10) (hi2 : i2 < 10) (hne : i2 < i) (ho : ∀ j, j < 10 → j ≠ i → j ≠ i2 → w1 j ≠ w1 i) (h : atc l T a (w1 i)) (hm : wM l T a i2 ≤ wM l T a i) (hm2 : wM l T a i2 = 1) : PV l T a i :=
  pvb_2 hne hm (by have := wL_p i2 hi2; omega) 10 0 0 (Nat.zero_le _) (Nat.zero_le _) (by omega) fun j _ hj h1 h2 => by
    have h0 := wM_n (T := T) (show j < 10 by omega) h (ho j (by omega) h1 h2)
    have := wL_p j (by omega)
    exact ⟨h0, by omega⟩
theorem oM_k {β : Type} {k : Nat} {a : Option β} {f : Nat → Option β} : oM (some k) a f = f k := rfl
/-- the class's command, given its verb -/
theorem c_bad {l a m : Nat} {pt : Nat → Int32} {vv : Option Nat} {vl vf vs vn : Int32} (hl : l ≤ 60) (ha : a ≤ 60) (hp : pvb (wM l pt a) wL 10 0 0 = (none, m)) : fX6_parseCommand (nI l) (nI a) pt vv vl vf vs vn = some (0, nI (a + m), vv, vl, vf, vs, vn) := by
  unfold fX6_parseCommand
  rw [c_pv hl ha, ob, hp]; rfl
theorem c_good {l a m k : Nat} {pt : Nat → Int32} {vv : Option Nat} {vl vf vs vn : Int32} (hl : l ≤ 60) (ha : a ≤ 60) (hp : pvb (wM l pt a) wL 10 0 0 = (some k, m)) : fX6_parseCommand (nI l) (nI a) pt vv vl vf vs vn = fX6_parseCommand_L22 k (nI l) pt (some k) FU 0 (nI (a + m)) vl vf vs 0 := by
  unfold fX6_parseCommand fX2_begin
  rw [c_pv hl ha, ob, hp]
  dsimp only
  rw [oM_k, ob]
/-! a word, read letter by letter -/
def rdW {β : Type} (l : Nat) (T : Nat → Int32) (F G : Nat → β) : List Int32 → Nat → β
  | [], a => G a
  | c :: w, a => if atc l T a c then rdW l T F G w (a + 1) else F a
theorem rdW_eq {β : Type} {l : Nat} {T : Nat → Int32} {F G : Nat → β} : ∀ (w : List Int32) (a : Nat), rdW l T F G w a = if mtw l T w a = w.length then G (a + w.length) else F (a + mtw l T w a) := by
  intro w
  induction w with
  | nil => intro a; rw [rdW, if_pos (show mtw l T [] a = ([] : List Int32).length from rfl)]; rfl
  | cons c w ih =>
    intro a
    by_cases g : atc l T a c
    · rw [rdW, if_pos g, ih, mtw_s g, List.length_cons]
      by_cases g2 : mtw l T w (a + 1) = w.length
      · rw [if_pos g2, if_pos (by omega), show a + 1 + w.length = a + (w.length + 1) by omega]
      · rw [if_neg g2, if_neg (by omega), show a + 1 + mtw l T w (a + 1) = a + (1 + mtw l T w (a + 1)) by omega]
    · rw [rdW, if_neg g, mtw_0 g, List.length_cons, if_neg (by omega), Nat.add_zero]
theorem rdW_bd {β γ : Type} {l : Nat} {T : Nat → Int32} {F G : Nat → Option β} {k : β → Option γ} : ∀ (w : List Int32) (a : Nat), (rdW l T F G w a).bind k = rdW l T (fun p => (F p).bind k) (fun p => (G p).bind k) w a := by
  intro w
  induction w with
  | nil => intro a; rfl
  | cons c w ih =>
    intro a
    rw [rdW, rdW]
    by_cases g : atc l T a c
    · rw [if_pos g, if_pos g, ih]
    · rw [if_neg g, if_neg g]
theorem rdW_s {β : Type} {l : Nat} {T : Nat → Int32} {F G : Nat → β} {c : Int32} {w : List Int32} {a : Nat} (g : atc l T a c) : rdW l T F G (c :: w) a = rdW l T F G w (a + 1) := if_pos g
theorem rdW_n {β : Type} {l : Nat} {T : Nat → Int32} {F G : Nat → β} {c : Int32} {w : List Int32} {a : Nat} (g : ¬ atc l T a c) : rdW l T F G (c :: w) a = F a := if_neg g
theorem m_ch {β : Type} {l a : Nat} {bu : Nat → Int32} {ch : Int32} {w : List Int32} {X K : Int32 × Int32 → Option β} {F G : Nat → Option β} (hl : l ≤ 60) (ha : a < 1000) (hc : ch ≠ -1) (hX : X (0, nI a) = F a) (hK : K (1, nI (a + 1)) = rdW l bu F G w (a + 1)) :
    ((fX13_reads (nI l) (nI a) bu ch).bind fun z => if z.1 = 0 then X z else K z) = rdW l bu F G (ch :: w) a := by
  rw [m_step hl ha hc, hX, hK]; rfl
