/-! pure layer: one command, on both sides -/
def soL (k : Nat) : Int32 := [115, 111, 99, 102, 100, 114, 101, 107, 108, 117].getD k 0
/-- the class's command k with its arguments -/
def cAR (k : Nat) (A0 A1 A2 : Int32) (c : CT) : Prop := c.1 = some k ∧ (if k = 0 ∨ k = 1 ∨ k = 6 ∨ k = 9 then c.2.1 else c.2.2.1) = A0 ∧ (k = 0 ∨ k = 1 → c.2.2.1 = A1) ∧ (k = 1 → c.2.2.2.1 = A2)
/-- the reference's -/
def mAR (k : Nat) (A0 A1 A2 so : Int32) (nu : Nat → Int32) : Prop := so = soL k ∧ nu 0 = A0 ∧ (k = 0 ∨ k = 1 → nu 1 = A1) ∧ (k = 1 → nu 2 = A2)
abbrev RT : Type := Int32 × Int32 × Int32 × (Nat → Int32)
/-- what stands behind a verb's word, read on both sides from b on -/
def ARG (l : Nat) (pt bu : Nat → Int32) (i b : Nat) (G : (Nat → Int32) → Option RT) : Prop := ∃ (g : Int32) (e : Nat) (A0 A1 A2 : Int32), (g = 0 ∨ (g = 1 ∧ b + 1 ≤ e)) ∧ e ≤ l ∧ (∀ (vl vf vs : Int32), ∃ c' : CT, fX6_parseCommand_L22 i (nI l) pt (some i) FU 0 (nI b) vl vf vs 0 = some (g, nI e, c') ∧ (g = 1 → cAR i A0 A1 A2 c')) ∧ (∀ nu : Nat → Int32, ∃ (so : Int32) (nu' : Nat → Int32), G nu = some (g, nI e, so, nu') ∧ (g = 1 → mAR i A0 A1 A2 so nu'))
/-- one command, read on both sides from a on -/
def CMD (l : Nat) (pt bu : Nat → Int32) (a : Nat) : Prop := ∃ (g : Int32) (e k : Nat) (A0 A1 A2 : Int32), k < 10 ∧ (g = 0 ∨ (g = 1 ∧ a + 5 ≤ e)) ∧ e ≤ l ∧ (∀ (vv : Option Nat) (vl vf vs vn : Int32), ∃ c' : CT, fX6_parseCommand (nI l) (nI a) pt vv vl vf vs vn = some (g, nI e, c') ∧ (g = 1 → cAR k A0 A1 A2 c')) ∧ (∀ nu : Nat → Int32, ∃ (so : Int32) (nu' : Nat → Int32), fX13_readsCommand (nI l) (nI a) bu nu = some (g, nI e, so, nu') ∧ (g = 1 → mAR k A0 A1 A2 so nu'))
theorem CMD_of {l a i : Nat} {pt bu : Nat → Int32} {w : List Int32} {F G : (Nat → Int32) → Nat → Option RT} (h : TX l pt bu) (ha : a ≤ l) (hi : i < 10) (hp : PV l bu a i) (hw : stB.getD (wIx.getD i 0) [] = w) (hm : ∀ nu, fX13_readsCommand (nI l) (nI a) bu nu = rdW l bu (F nu) (G nu) w a) (hF : ∀ nu p, ∃ so, F nu p = some (0, nI p, so, nu)) (hG : a + wL i ≤ l → ARG l pt bu i (a + wL i) (fun nu => G nu (a + wL i))) : CMD l pt bu a := by
  subst hw
  have hl := h.1
  have hpb : ∀ j, j < l → pt j = bu j := fun j hj => (h.2 j hj).1
  have wlen := (wL_7 i hi).2.2
  have hw4 := wL_p i hi
  have hml := mtw_l (T := bu) (stB.getD (wIx.getD i 0) []) a ha
  have hp' : pvb (wM l bu a) wL 10 0 0 = if wM l bu a i = wL i then (some i, wM l bu a i) else (none, wM l bu a i) := hp
  have eM : wM l bu a i = mtw l bu (stB.getD (wIx.getD i 0) []) a := rfl
  by_cases q : wM l bu a i = wL i
  · obtain ⟨g, e, A0, A1, A2, hg, he, hc, hr⟩ := hG (by rw [← q, eM]; exact hml)
    refine ⟨g, e, i, A0, A1, A2, hi, ?_, he, fun vv vl vf vs vn => ?_, fun nu => ?_⟩
    · rcases hg with hg | ⟨h1, h2⟩
      · exact Or.inl hg
      · exact Or.inr ⟨h1, by omega⟩
    · obtain ⟨c', e1, e2⟩ := hc vl vf vs
      exact ⟨c', (c_good hl (by omega) (by rw [wM_eq hpb, hp', if_pos q, q])).trans e1, e2⟩
    · obtain ⟨so, nu', e1, e2⟩ := hr nu
      refine ⟨so, nu', ?_, e2⟩
      rw [hm, rdW_eq, if_pos (by rw [← eM, ← wlen]; exact q), ← wlen]
      exact e1
  · refine ⟨0, a + wM l bu a i, i, 0, 0, 0, hi, Or.inl rfl, by rw [eM]; exact hml, fun vv vl vf vs vn => ?_, fun nu => ?_⟩
    · exact ⟨(vv, vl, vf, vs, vn), c_bad hl (by omega) (by rw [wM_eq hpb, hp', if_neg q]), fun e => absurd e (by decide)⟩
    · obtain ⟨so, e1⟩ := hF nu (a + wM l bu a i)
      refine ⟨so, nu, ?_, fun e => absurd e (by decide)⟩
      rw [hm, rdW_eq, if_neg (by rw [← eM, ← wlen]; exact q)]
      exact e1
/-- numbers -/
def VN (so : Int32) (l : Nat) (bu : Nat → Int32) (b : Nat) (nu : Nat → Int32) : Option RT := if (rdn l bu 3 b 0).1 = 0 then some (0, nI b, so, nu) else some (1, nI (b + (rdn l bu 3 b 0).1), so, upd nu 0 (rdn l bu 3 b 0).2)
theorem gv_n {l b : Nat} {bu nu : Nat → Int32} {so : Int32} (hl : l ≤ 60) (hb : b < 100) : gN l bu so nu b = VN so l bu b nu := m_nst (s := 0) hl (by omega) hb
theorem gv_nC {l b : Nat} {bu nu : Nat → Int32} {so : Int32} (hl : l ≤ 60) (hb : b < 100) : (gN l bu so nu b).bind wC = VN so l bu b nu := by
  rw [gv_n hl hb]
  unfold VN
  by_cases q : (rdn l bu 3 b 0).1 = 0
  · simp only [if_pos q] <;> rfl
  · simp only [if_neg q] <;> rfl
theorem arg_n {l b i : Nat} {pt bu : Nat → Int32} {G : (Nat → Int32) → Option RT} (h : TX l pt bu) (hb : b ≤ l) (hi : i < 10) (hp : pIx.getD i 0 = 5) (hn : ¬ (i = 0 ∨ i = 1 ∨ i = 6 ∨ i = 9)) (hG : ∀ nu, G nu = VN (soL i) l bu b nu) : ARG l pt bu i b G := by
  have hl := h.1
  have hpb : ∀ j, j < l → pt j = bu j := fun j hj => (h.2 j hj).1
  have hle := rdn_l (T := bu) 3 b 0 hb
  by_cases q : (rdn l bu 3 b 0).1 = 0
  · refine ⟨0, b, 0, 0, 0, Or.inl rfl, hb, fun vl vf vs => ⟨(some i, vl, (rdn l bu 3 b 0).2, vs, 1), ?_, fun e => absurd e (by decide)⟩, fun nu => ⟨soL i, nu, ?_, fun e => absurd e (by decide)⟩⟩
    · rw [c_k5 h (by omega) hi hp, rdn_eq hpb, if_pos q, q, Nat.add_zero]
    · rw [hG]; exact if_pos q
  · refine ⟨1, b + (rdn l bu 3 b 0).1, (rdn l bu 3 b 0).2, 0, 0, Or.inr ⟨rfl, by omega⟩, hle, fun vl vf vs => ⟨(some i, vl, (rdn l bu 3 b 0).2, vs, 1), ?_, fun _ => ⟨rfl, if_neg hn, fun e => absurd e (by omega), fun e => absurd e (by omega)⟩⟩, fun nu => ⟨soL i, upd nu 0 (rdn l bu 3 b 0).2, ?_, fun _ => ⟨rfl, pk_us, fun e => absurd e (by omega), fun e => absurd e (by omega)⟩⟩⟩
    · rw [c_k5 h (by omega) hi hp, rdn_eq hpb, if_neg q]
    · rw [hG]; exact if_neg q
/-- a digit -/
theorem rdn_1 {l a : Nat} {T : Nat → Int32} : rdn l T 1 a 0 = if dgt l T a then (1, T a - 48) else (0, 0) := by
  rw [rdn]
  by_cases g : dgt l T a
  · rw [if_pos g, if_pos g]
    show ((0 + 1 : Nat), (10 : Int32) * 0 + (T a - 48)) = _
    rw [show (10 : Int32) * 0 = 0 from rfl, Int32.zero_add]
  · rw [if_neg g, if_neg g]
def VD (l : Nat) (bu : Nat → Int32) (b : Nat) (nu : Nat → Int32) : Option RT := if dgt l bu b then some (1, nI (b + 1), 107, upd nu 0 (bu b - 48)) else some (0, nI b, 107, nu)
theorem gv_d {l b : Nat} {bu nu : Nat → Int32} (hl : l ≤ 60) (hb : b < 100) : gD l bu 107 nu b = VD l bu b nu := by
  unfold gD VD fX13_readsDigit
  rw [m_dg hl (by omega), ob]
  by_cases q : dgt l bu b
  · rw [if_pos q, if_neg (show ¬ (1 : Int32) = 0 by decide), m_nx hl (by omega), ob, if_pos q.1, show (0 : Int32) = nI 0 from rfl, gd_t (inR_n (show 0 < 3 by omega) (by omega)), ob, nI_clamp (by omega), if_pos q, nI_1] <;> rfl
  · simp only [if_neg q, if_true] <;> rfl
theorem arg_d {l b : Nat} {pt bu : Nat → Int32} {G : (Nat → Int32) → Option RT} (h : TX l pt bu) (hb : b ≤ l) (hG : ∀ nu, G nu = VD l bu b nu) : ARG l pt bu 7 b G := by
  have hl := h.1
  have hpb : ∀ j, j < l → pt j = bu j := fun j hj => (h.2 j hj).1
  by_cases q : dgt l bu b
  · have e1 : rdn l bu 1 b 0 = (1, bu b - 48) := by rw [rdn_1, if_pos q]
    refine ⟨1, b + 1, bu b - 48, 0, 0, Or.inr ⟨rfl, by omega⟩, q.1, fun vl vf vs => ⟨(some 7, vl, bu b - 48, vs, 1), ?_, fun _ => ⟨rfl, if_neg (by omega), fun e => absurd e (by omega), fun e => absurd e (by omega)⟩⟩, fun nu => ⟨107, upd nu 0 (bu b - 48), ?_, fun _ => ⟨rfl, pk_us, fun e => absurd e (by omega), fun e => absurd e (by omega)⟩⟩⟩
    · rw [c_k7 h (by omega), rdn_eq hpb, e1] <;> rfl
    · rw [hG]; exact if_pos q
  · have e1 : rdn l bu 1 b 0 = (0, 0) := by rw [rdn_1, if_neg q]
    refine ⟨0, b, 0, 0, 0, Or.inl rfl, hb, fun vl vf vs => ⟨(some 7, vl, 0, vs, 1), ?_, fun e => absurd e (by decide)⟩, fun nu => ⟨107, nu, ?_, fun e => absurd e (by decide)⟩⟩
    · rw [c_k7 h (by omega), rdn_eq hpb, e1] <;> rfl
    · rw [hG]; exact if_neg q
/-- a material -/
def VM (l : Nat) (bu : Nat → Int32) (b : Nat) (nu : Nat → Int32) : Option RT := if mtc l bu b then some (1, nI (b + 1), 101, upd nu 0 (bu b)) else some (0, nI b, 101, upd nu 0 (if b < l then bu b else -1))
theorem gv_m {l b : Nat} {bu nu : Nat → Int32} (hl : l ≤ 60) (hb : b < 100) : (gM l bu nu b).bind wC = VM l bu b nu := by
  unfold gM VM
  rw [m_mt hl hb, ob]
  by_cases q : mtc l bu b
  · simp only [if_pos q] <;> rfl
  · simp only [if_neg q] <;> rfl
theorem arg_m {l b : Nat} {pt bu : Nat → Int32} {G : (Nat → Int32) → Option RT} (h : TX l pt bu) (hb : b ≤ l) (hG : ∀ nu, G nu = VM l bu b nu) : ARG l pt bu 6 b G := by
  have hl := h.1
  have hpb : ∀ j, j < l → pt j = bu j := fun j hj => (h.2 j hj).1
  by_cases q : mtc l bu b
  · have q' := (mtc_eq hpb).mpr q
    refine ⟨1, b + 1, bu b, 0, 0, Or.inr ⟨rfl, by omega⟩, q.1, fun vl vf vs => ⟨(some 6, bu b, vf, vs, 0), ?_, fun _ => ⟨rfl, if_pos (by omega), fun e => absurd e (by omega), fun e => absurd e (by omega)⟩⟩, fun nu => ⟨101, upd nu 0 (bu b), ?_, fun _ => ⟨rfl, pk_us, fun e => absurd e (by omega), fun e => absurd e (by omega)⟩⟩⟩
    · rw [c_k6 h (by omega), if_pos q', hpb b q.1]
    · rw [hG]; exact if_pos q
  · have q' : ¬ mtc l pt b := fun r => q ((mtc_eq hpb).mp r)
    refine ⟨0, b, 0, 0, 0, Or.inl rfl, hb, fun vl vf vs => ⟨(some 6, vl, vf, vs, 0), ?_, fun e => absurd e (by decide)⟩, fun nu => ⟨101, upd nu 0 (if b < l then bu b else -1), ?_, fun e => absurd e (by decide)⟩⟩
    · rw [c_k6 h (by omega), if_neg q']
    · rw [hG]; exact if_neg q
/-- a rule -/
def VU (l : Nat) (bu : Nat → Int32) (b : Nat) (nu : Nat → Int32) : Option RT := if rlc l bu b then some (1, nI (b + 1), 117, upd nu 0 (bu b)) else some (0, nI b, 117, upd nu 0 (if b < l then bu b else -1))
theorem gv_r {l b : Nat} {bu nu : Nat → Int32} (hl : l ≤ 60) (hb : b < 100) : (gR l bu nu b).bind wC = VU l bu b nu := by
  unfold gR VU
  rw [m_nx hl (by omega), ob, m_step hl (by omega) (by decide)]
  by_cases q1 : atc l bu b 98
  · rw [if_pos q1, if_pos (show rlc l bu b from ⟨q1.1, Or.inl q1.2⟩), if_pos q1.1] <;> rfl
  · rw [if_neg q1]; dsimp only
    rw [m_step hl (by omega) (by decide)]
    by_cases q2 : atc l bu b 119
    · rw [if_pos q2, if_pos (show rlc l bu b from ⟨q2.1, Or.inr (Or.inl q2.2)⟩), if_pos q2.1] <;> rfl
    · rw [if_neg q2]; dsimp only
      rw [m_step hl (by omega) (by decide)]
      by_cases q3 : atc l bu b 102
      · rw [if_pos q3, if_pos (show rlc l bu b from ⟨q3.1, Or.inr (Or.inr q3.2)⟩), if_pos q3.1] <;> rfl
      · rw [if_neg q3, if_neg (show ¬ rlc l bu b from fun r => r.2.elim (fun s => q1 ⟨r.1, s⟩) (fun s => s.elim (fun s => q2 ⟨r.1, s⟩) (fun s => q3 ⟨r.1, s⟩)))] <;> rfl
theorem arg_r {l b : Nat} {pt bu : Nat → Int32} {G : (Nat → Int32) → Option RT} (h : TX l pt bu) (hb : b ≤ l) (hG : ∀ nu, G nu = VU l bu b nu) : ARG l pt bu 9 b G := by
  have hl := h.1
  have hpb : ∀ j, j < l → pt j = bu j := fun j hj => (h.2 j hj).1
  by_cases q : rlc l bu b
  · have q' := (rlc_eq hpb).mpr q
    refine ⟨1, b + 1, bu b, 0, 0, Or.inr ⟨rfl, by omega⟩, q.1, fun vl vf vs => ⟨(some 9, bu b, vf, vs, 0), ?_, fun _ => ⟨rfl, if_pos (by omega), fun e => absurd e (by omega), fun e => absurd e (by omega)⟩⟩, fun nu => ⟨117, upd nu 0 (bu b), ?_, fun _ => ⟨rfl, pk_us, fun e => absurd e (by omega), fun e => absurd e (by omega)⟩⟩⟩
    · rw [c_k9 h (by omega), if_pos q', hpb b q.1]
    · rw [hG]; exact if_pos q
  · have q' : ¬ rlc l pt b := fun r => q ((rlc_eq hpb).mp r)
    refine ⟨0, b, 0, 0, 0, Or.inl rfl, hb, fun vl vf vs => ⟨(some 9, vl, vf, vs, 0), ?_, fun e => absurd e (by decide)⟩, fun nu => ⟨117, upd nu 0 (if b < l then bu b else -1), ?_, fun e => absurd e (by decide)⟩⟩
    · rw [c_k9 h (by omega), if_neg q']
    · rw [hG]; exact if_neg q
/-- a spool -/
theorem m_mst {β : Type} {l a : Nat} {bu nu : Nat → Int32} {X K : Int32 × Int32 × (Nat → Int32) → Option β} (hl : l ≤ 60) (ha : a < 100) :
    ((fX13_readsMaterial (nI l) (nI a) bu nu).bind fun z => if z.1 = 0 then X z else K z) = if mtc l bu a then K (1, nI (a + 1), upd nu 0 (bu a)) else X (0, nI a, upd nu 0 (if a < l then bu a else -1)) := by
  rw [m_mt hl ha, ob]
  by_cases g : mtc l bu a
  · simp only [if_pos g, if_neg (show ¬ (1 : Int32) = 0 by decide)]
  · simp only [if_neg g, if_true]
def VS (l : Nat) (bu : Nat → Int32) (b : Nat) (nu : Nat → Int32) : Option RT := if mtc l bu b then (if (rdn l bu 3 (b + 1) 0).1 = 0 then some (0, nI (b + 1), 115, upd nu 0 (bu b)) else some (1, nI (b + 1 + (rdn l bu 3 (b + 1) 0).1), 115, upd (upd nu 0 (bu b)) 1 (rdn l bu 3 (b + 1) 0).2)) else some (0, nI b, 115, upd nu 0 (if b < l then bu b else -1))
theorem gv_s {l b : Nat} {bu nu : Nat → Int32} (hl : l ≤ 60) (hb : b < 90) : gS l bu nu b = VS l bu b nu := by
  unfold gS VS
  rw [m_mst hl (by omega)]
  by_cases q : mtc l bu b
  · refine (if_pos q).trans (Eq.trans ?_ (if_pos q).symm)
    dsimp only
    exact m_nst (s := 1) hl (by omega) (by omega)
  · exact (if_neg q).trans (if_neg q).symm
theorem arg_s {l b : Nat} {pt bu : Nat → Int32} {G : (Nat → Int32) → Option RT} (h : TX l pt bu) (hb : b ≤ l) (hG : ∀ nu, G nu = VS l bu b nu) : ARG l pt bu 0 b G := by
  have hl := h.1
  have hpb : ∀ j, j < l → pt j = bu j := fun j hj => (h.2 j hj).1
  by_cases q : mtc l bu b
  · have q' := (mtc_eq hpb).mpr q
    have hle := rdn_l (T := bu) 3 (b + 1) 0 q.1
    by_cases r : (rdn l bu 3 (b + 1) 0).1 = 0
    · refine ⟨0, b + 1, 0, 0, 0, Or.inl rfl, q.1, fun vl vf vs => ⟨(some 0, bu b, (rdn l bu 3 (b + 1) 0).2, vs, 1), ?_, fun e => absurd e (by decide)⟩, fun nu => ⟨115, upd nu 0 (bu b), ?_, fun e => absurd e (by decide)⟩⟩
      · rw [c_k0 h (by omega), if_pos q', rdn_eq hpb, if_pos r, r, Nat.add_zero, hpb b q.1]
      · rw [hG]; exact (if_pos q).trans (if_pos r)
    · refine ⟨1, b + 1 + (rdn l bu 3 (b + 1) 0).1, bu b, (rdn l bu 3 (b + 1) 0).2, 0, Or.inr ⟨rfl, by omega⟩, hle, fun vl vf vs => ⟨(some 0, bu b, (rdn l bu 3 (b + 1) 0).2, vs, 1), ?_, fun _ => ⟨rfl, if_pos (by omega), fun _ => rfl, fun e => absurd e (by omega)⟩⟩, fun nu => ⟨115, upd (upd nu 0 (bu b)) 1 (rdn l bu 3 (b + 1) 0).2, ?_, fun _ => ⟨rfl, (pk_un (by omega)).trans pk_us, fun _ => pk_us, fun e => absurd e (by omega)⟩⟩⟩
      · rw [c_k0 h (by omega), if_pos q', rdn_eq hpb, if_neg r, hpb b q.1]
      · rw [hG]; exact (if_pos q).trans (if_neg r)
  · have q' : ¬ mtc l pt b := fun r => q ((mtc_eq hpb).mp r)
    refine ⟨0, b, 0, 0, 0, Or.inl rfl, hb, fun vl vf vs => ⟨(some 0, vl, vf, vs, 0), ?_, fun e => absurd e (by decide)⟩, fun nu => ⟨115, upd nu 0 (if b < l then bu b else -1), ?_, fun e => absurd e (by decide)⟩⟩
    · rw [c_k0 h (by omega), if_neg q']
    · rw [hG]; exact if_neg q
/-- an order -/
def VO (l : Nat) (bu : Nat → Int32) (b : Nat) (nu : Nat → Int32) : Option RT :=
  if mtc l bu b then (if (rdn l bu 3 (b + 1) 0).1 = 0 then some (0, nI (b + 1), 111, upd nu 0 (bu b)) else
    if atc l bu (b + 1 + (rdn l bu 3 (b + 1) 0).1) 64 then (if (rdn l bu 3 (b + 1 + (rdn l bu 3 (b + 1) 0).1 + 1) 0).1 = 0 then some (0, nI (b + 1 + (rdn l bu 3 (b + 1) 0).1 + 1), 111, upd (upd nu 0 (bu b)) 1 (rdn l bu 3 (b + 1) 0).2) else some (1, nI (b + 1 + (rdn l bu 3 (b + 1) 0).1 + 1 + (rdn l bu 3 (b + 1 + (rdn l bu 3 (b + 1) 0).1 + 1) 0).1), 111, upd (upd (upd nu 0 (bu b)) 1 (rdn l bu 3 (b + 1) 0).2) 2 (rdn l bu 3 (b + 1 + (rdn l bu 3 (b + 1) 0).1 + 1) 0).2)) else some (0, nI (b + 1 + (rdn l bu 3 (b + 1) 0).1), 111, upd (upd nu 0 (bu b)) 1 (rdn l bu 3 (b + 1) 0).2)) else some (0, nI b, 111, upd nu 0 (if b < l then bu b else -1))
theorem gv_o {l b : Nat} {bu nu : Nat → Int32} (hl : l ≤ 60) (hb : b < 80) : (gOd l bu nu b).bind wO = VO l bu b nu := by
  have hr := rdn_le (l := l) (T := bu) 3 (b + 1) 0
  unfold gOd VO
  rw [m_mst hl (by omega)]
  by_cases q : mtc l bu b
  · rw [if_pos q, if_pos q]
    dsimp only
    rw [show (1 : Int32) = nI 1 from rfl, m_nst hl (by omega) (by omega)]
    by_cases r : (rdn l bu 3 (b + 1) 0).1 = 0
    · rw [if_pos r, if_pos r] <;> rfl
    · rw [if_neg r, if_neg r]
      dsimp only
      rw [m_step hl (by omega) (by decide)]
      by_cases s : atc l bu (b + 1 + (rdn l bu 3 (b + 1) 0).1) 64
      · rw [if_pos s, if_pos s]
        dsimp only
        rw [show (2 : Int32) = nI 2 from rfl, m_nst hl (by omega) (by omega)]
        by_cases t : (rdn l bu 3 (b + 1 + (rdn l bu 3 (b + 1) 0).1 + 1) 0).1 = 0
        · rw [if_pos t, if_pos t] <;> rfl
        · rw [if_neg t, if_neg t] <;> rfl
      · rw [if_neg s, if_neg s] <;> rfl
  · rw [if_neg q, if_neg q] <;> rfl
theorem arg_o {l b : Nat} {pt bu : Nat → Int32} {G : (Nat → Int32) → Option RT} (h : TX l pt bu) (hb : b ≤ l) (hG : ∀ nu, G nu = VO l bu b nu) : ARG l pt bu 1 b G := by
  have hl := h.1
  have hpb : ∀ j, j < l → pt j = bu j := fun j hj => (h.2 j hj).1
  by_cases q : mtc l bu b
  · have q' := (mtc_eq hpb).mpr q
    have hle := rdn_l (T := bu) 3 (b + 1) 0 q.1
    by_cases r : (rdn l bu 3 (b + 1) 0).1 = 0
    · refine ⟨0, b + 1, 0, 0, 0, Or.inl rfl, q.1, fun vl vf vs => ⟨(some 1, bu b, (rdn l bu 3 (b + 1) 0).2, vs, 1), ?_, fun e => absurd e (by decide)⟩, fun nu => ⟨111, upd nu 0 (bu b), ?_, fun e => absurd e (by decide)⟩⟩
      · rw [c_k1 h (by omega) rfl, if_pos q', rdn_eq hpb, if_pos r, r, Nat.add_zero, hpb b q.1]
      · rw [hG]; exact (if_pos q).trans (if_pos r)
    · by_cases s : atc l bu (b + 1 + (rdn l bu 3 (b + 1) 0).1) 64
      · have s' := (atc_eq h).mpr s
        have hle2 := rdn_l (T := bu) 3 (b + 1 + (rdn l bu 3 (b + 1) 0).1 + 1) 0 s.1
        by_cases t : (rdn l bu 3 (b + 1 + (rdn l bu 3 (b + 1) 0).1 + 1) 0).1 = 0
        · refine ⟨0, b + 1 + (rdn l bu 3 (b + 1) 0).1 + 1, 0, 0, 0, Or.inl rfl, s.1, fun vl vf vs => ⟨(some 1, bu b, (rdn l bu 3 (b + 1) 0).2, (rdn l bu 3 (b + 1 + (rdn l bu 3 (b + 1) 0).1 + 1) 0).2, 2), ?_, fun e => absurd e (by decide)⟩, fun nu => ⟨111, upd (upd nu 0 (bu b)) 1 (rdn l bu 3 (b + 1) 0).2, ?_, fun e => absurd e (by decide)⟩⟩
          · rw [c_k1 h (by omega) rfl, if_pos q']
            simp only [rdn_eq hpb]
            rw [if_neg r, if_pos s', if_pos t, t, Nat.add_zero, hpb b q.1]
          · rw [hG]; exact (if_pos q).trans ((if_neg r).trans ((if_pos s).trans (if_pos t)))
        · refine ⟨1, b + 1 + (rdn l bu 3 (b + 1) 0).1 + 1 + (rdn l bu 3 (b + 1 + (rdn l bu 3 (b + 1) 0).1 + 1) 0).1, bu b, (rdn l bu 3 (b + 1) 0).2, (rdn l bu 3 (b + 1 + (rdn l bu 3 (b + 1) 0).1 + 1) 0).2, Or.inr ⟨rfl, by omega⟩, hle2, fun vl vf vs => ⟨(some 1, bu b, (rdn l bu 3 (b + 1) 0).2, (rdn l bu 3 (b + 1 + (rdn l bu 3 (b + 1) 0).1 + 1) 0).2, 2), ?_, fun _ => ⟨rfl, if_pos (by omega), fun _ => rfl, fun _ => rfl⟩⟩, fun nu => ⟨111, upd (upd (upd nu 0 (bu b)) 1 (rdn l bu 3 (b + 1) 0).2) 2 (rdn l bu 3 (b + 1 + (rdn l bu 3 (b + 1) 0).1 + 1) 0).2, ?_, fun _ => ⟨rfl, (pk_un (by omega)).trans ((pk_un (by omega)).trans pk_us), fun _ => (pk_un (by omega)).trans pk_us, fun _ => pk_us⟩⟩⟩
          · rw [c_k1 h (by omega) rfl, if_pos q']
            simp only [rdn_eq hpb]
            rw [if_neg r, if_pos s', if_neg t, hpb b q.1]
          · rw [hG]; exact (if_pos q).trans ((if_neg r).trans ((if_pos s).trans (if_neg t)))
      · have s' : ¬ atc l pt (b + 1 + (rdn l bu 3 (b + 1) 0).1) 64 := fun u => s ((atc_eq h).mp u)
        refine ⟨0, b + 1 + (rdn l bu 3 (b + 1) 0).1, 0, 0, 0, Or.inl rfl, hle, fun vl vf vs => ⟨(some 1, bu b, (rdn l bu 3 (b + 1) 0).2, vs, 1), ?_, fun e => absurd e (by decide)⟩, fun nu => ⟨111, upd (upd nu 0 (bu b)) 1 (rdn l bu 3 (b + 1) 0).2, ?_, fun e => absurd e (by decide)⟩⟩
        · rw [c_k1 h (by omega) rfl, if_pos q']
          simp only [rdn_eq hpb]
          rw [if_neg r, if_neg s', hpb b q.1]
        · rw [hG]; exact (if_pos q).trans ((if_neg r).trans (if_neg s))
  · have q' : ¬ mtc l pt b := fun r => q ((mtc_eq hpb).mp r)
    refine ⟨0, b, 0, 0, 0, Or.inl rfl, hb, fun vl vf vs => ⟨(some 1, vl, vf, vs, 0), ?_, fun e => absurd e (by decide)⟩, fun nu => ⟨111, upd nu 0 (if b < l then bu b else -1), ?_, fun e => absurd e (by decide)⟩⟩
    · rw [c_k1 h (by omega) rfl, if_neg q']
    · rw [hG]; exact if_neg q
