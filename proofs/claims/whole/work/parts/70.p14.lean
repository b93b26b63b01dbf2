/-! pure layer: history, saving -/
theorem cp_L {g : Nat → Int32} : ∀ (d k i : Nat) (f : Nat → Int32), d < k → i + d = 201 →
    fX13_copies_L2 g k (nI i) f = some (fun j => if i ≤ j ∧ j < 201 then g j else f j) := by
  intro d
  induction d with
  | zero =>
    intro k i f hk hi
    obtain ⟨k, rfl⟩ : ∃ q, k = q + 1 := ⟨k - 1, by omega⟩
    rw [fX13_copies_L2, if_pos (show (201 : Int32) ≤ nI i from nI_le (a := 201) (by omega) (by omega))]
    congr 1
    funext j
    rw [if_neg (by omega)]
  | succ d ih =>
    intro k i f hk hi
    obtain ⟨k, rfl⟩ : ∃ q, k = q + 1 := ⟨k - 1, by omega⟩
    rw [fX13_copies_L2, if_neg (show ¬ (201 : Int32) ≤ nI i from nI_ge (b := 201) (by omega) (by omega)), gd_t (inR_n (by omega) (by omega)), gd_t (inR_n (by omega) (by omega)), nI_clamp (by omega), nI_1, ih _ _ _ (by omega) (by omega)]
    congr 1
    funext j
    simp only [upd_e]
    by_cases h1 : i + 1 ≤ j ∧ j < 201
    · rw [if_pos h1, if_pos (show i ≤ j ∧ j < 201 by omega)]
    · rw [if_neg h1]
      by_cases h2 : j = i
      · rw [if_pos h2, if_pos (show i ≤ j ∧ j < 201 by omega), h2]
      · rw [if_neg h2, if_neg (show ¬ (i ≤ j ∧ j < 201) by omega)]
theorem m_cp (w be : Nat → Int32) : fX13_copies w be = some (cpy be w 201) := by
  unfold fX13_copies
  rw [show (0 : Int32) = nI 0 from rfl, cp_L 201 FU 0 be (FU_lt (by omega)) rfl]
  congr 1
  funext j
  simp only [cpy, Nat.zero_le, true_and]
theorem gb_L {g : Nat → Int32} : ∀ (d k i : Nat) (f : Nat → Int32), d < k → i + d = 201 →
    fX13_goesBack_L2 g k (nI i) f = some (fun j => if i ≤ j ∧ j < 201 then g j else f j) := by
  intro d
  induction d with
  | zero =>
    intro k i f hk hi
    obtain ⟨k, rfl⟩ : ∃ q, k = q + 1 := ⟨k - 1, by omega⟩
    rw [fX13_goesBack_L2, if_pos (show (201 : Int32) ≤ nI i from nI_le (a := 201) (by omega) (by omega))]
    congr 1
    funext j
    rw [if_neg (by omega)]
  | succ d ih =>
    intro k i f hk hi
    obtain ⟨k, rfl⟩ : ∃ q, k = q + 1 := ⟨k - 1, by omega⟩
    rw [fX13_goesBack_L2, if_neg (show ¬ (201 : Int32) ≤ nI i from nI_ge (b := 201) (by omega) (by omega)), gd_t (inR_n (by omega) (by omega)), gd_t (inR_n (by omega) (by omega)), nI_clamp (by omega), nI_1, ih _ _ _ (by omega) (by omega)]
    congr 1
    funext j
    simp only [upd_e]
    by_cases h1 : i + 1 ≤ j ∧ j < 201
    · rw [if_pos h1, if_pos (show i ≤ j ∧ j < 201 by omega)]
    · rw [if_neg h1]
      by_cases h2 : j = i
      · rw [if_pos h2, if_pos (show i ≤ j ∧ j < 201 by omega), h2]
      · rw [if_neg h2, if_neg (show ¬ (i ≤ j ∧ j < 201) by omega)]
theorem m_gb (w be : Nat → Int32) : fX13_goesBack w be = some (cpy w be 201) := by
  unfold fX13_goesBack
  rw [show (0 : Int32) = nI 0 from rfl, gb_L 201 FU 0 w (FU_lt (by omega)) rfl]
  congr 1
  funext j
  simp only [cpy, Nat.zero_le, true_and]
theorem kp_L {be : Nat → Int32} {s : Nat} {c f : Int32} (hs : s < 8) : ∀ (d k i : Nat) (un : Nat → Int32), d < k → i + d = 201 →
    fX13_keeps_L47 (nI s) c f be k (nI i) un = some (c + 1, f, fun j => if 201 * s + i ≤ j ∧ j < 201 * s + 201 then be (j - 201 * s) else un j) := by
  intro d
  induction d with
  | zero =>
    intro k i un hk hi
    obtain ⟨k, rfl⟩ : ∃ q, k = q + 1 := ⟨k - 1, by omega⟩
    rw [fX13_keeps_L47, if_pos (show (201 : Int32) ≤ nI i from nI_le (a := 201) (by omega) (by omega))]
    congr 3
    funext j
    rw [if_neg (by omega)]
  | succ d ih =>
    intro k i un hk hi
    obtain ⟨k, rfl⟩ : ∃ q, k = q + 1 := ⟨k - 1, by omega⟩
    have e : (201 : Int32) * nI s + nI i = nI (201 * s + i) := by rw [show (201 : Int32) = nI 201 from rfl, pk_mul, nI_add]
    rw [fX13_keeps_L47, if_neg (show ¬ (201 : Int32) ≤ nI i from nI_ge (b := 201) (by omega) (by omega)), e, gd_t (inR_n (by omega) (by omega)), gd_t (inR_n (by omega) (by omega)), nI_clamp (by omega), nI_clamp (by omega), nI_1, ih _ _ _ (by omega) (by omega)]
    congr 3
    funext j
    simp only [upd_e]
    by_cases h1 : 201 * s + (i + 1) ≤ j ∧ j < 201 * s + 201
    · rw [if_pos h1, if_pos (show 201 * s + i ≤ j ∧ j < 201 * s + 201 by omega)]
    · rw [if_neg h1]
      by_cases h2 : j = 201 * s + i
      · rw [if_pos h2, if_pos (show 201 * s + i ≤ j ∧ j < 201 * s + 201 by omega)]; congr 1; omega
      · rw [if_neg h2, if_neg (show ¬ (201 * s + i ≤ j ∧ j < 201 * s + 201) by omega)]
theorem r8 {a : Nat} (ha : a < 1000) : nI a - nI a / 8 * 8 = nI (a % 8) := pk_rem (d := 8) (by omega) (by omega) (by omega)
def kps (un be : Nat → Int32) (s : Nat) : Nat → Int32 := fun j => if 201 * s ≤ j ∧ j < 201 * s + 201 then be (j - 201 * s) else un j
theorem m_kp {hc fc : Nat} (un be : Nat → Int32) (hc8 : hc ≤ 8) (hf : fc < 8) :
    fX13_keeps (nI hc) (nI fc) un be = if hc = 8 then some (nI 8, nI ((fc + 1) % 8), kps un be (((fc + 1) % 8 + 7) % 8)) else some (nI (hc + 1), nI fc, kps un be ((fc + hc) % 8)) := by
  unfold fX13_keeps
  by_cases h : hc = 8
  · subst h
    rw [if_pos rfl, if_pos (show nI 8 = 8 from rfl), nI_1, r8 (by omega), show nI 8 - 1 = nI 7 from rfl, nI_add, r8 (by omega), show (0 : Int32) = nI 0 from rfl, kp_L (by omega) 201 FU 0 un (FU_lt (by omega)) rfl]
    rfl
  · rw [if_neg h, if_neg (show ¬ nI hc = (8 : Int32) from fun e => h ((nI_eq (b := 8) (by omega) (by omega)).mp e)), nI_add, r8 (by omega), show (0 : Int32) = nI 0 from rfl, kp_L (by omega) 201 FU 0 un (FU_lt (by omega)) rfl, nI_1]
    rfl
def HR (b hn hc fc : Nat) (S : Nat → WT) (un : Nat → Int32) : Prop := hn < 9 ∧ hc ≤ 8 ∧ fc < 8 ∧ ∀ i, i < hc → WR b (S ((hn + 8 - i) % 9)) (fun j => un (201 * ((fc + hc - 1 - i) % 8) + j))
theorem HR_mono {b b' hn hc fc : Nat} {S : Nat → WT} {un : Nat → Int32} (h : HR b hn hc fc S un) (hb : b ≤ b') (hb' : b' < 100000) : HR b' hn hc fc S un :=
  ⟨h.1, h.2.1, h.2.2.1, fun i hi => WR_mono (h.2.2.2 i hi) hb hb'⟩
theorem va_us {S : Nat → WT} {k : Nat} {w : WT} : va_up S k w k = w := if_pos rfl
theorem va_un {S : Nat → WT} {k j : Nat} {w : WT} (h : j ≠ k) : va_up S k w j = S j := if_neg h
theorem HR_prep {b hn hc fc : Nat} {S : Nat → WT} {un : Nat → Int32} {w : WT} (h : HR b hn hc fc S un) : HR b hn hc fc (va_up S hn w) un := by
  obtain ⟨h1, h2, h3, h4⟩ := h
  refine ⟨h1, h2, h3, fun i hi => ?_⟩
  rw [va_un (by omega)]
  exact h4 i hi
theorem HR_kp {b hn hc fc : Nat} {S : Nat → WT} {un be x : Nat → Int32} (h : HR b hn hc fc S un) (hw : WR b (S hn) x) (hb : ∀ j, j < 201 → be j = x j) :
    ∃ hn' hc' fc' un', fX3_commit (nI hn) (nI hc) = some (nI hn', nI hc') ∧ fX13_keeps (nI hc) (nI fc) un be = some (nI hc', nI fc', un') ∧ HR b hn' hc' fc' S un' := by
  obtain ⟨h1, h2, h3, h4⟩ := h
  have hslot : ∀ (s : Nat) (un : Nat → Int32), WR b (S hn) (fun j => kps un be s (201 * s + j)) := fun s un => WR_fr hw (fun j hj => by
    show kps un be s (201 * s + j) = x j
    unfold kps
    rw [if_pos (show 201 * s ≤ 201 * s + j ∧ 201 * s + j < 201 * s + 201 by omega), show 201 * s + j - 201 * s = j by omega]
    exact hb j hj)
  have hoth : ∀ (s r : Nat) (w : WT), r ≠ s → WR b w (fun j => un (201 * r + j)) → WR b w (fun j => kps un be s (201 * r + j)) := fun s r w hrs hh => WR_fr hh (fun j hj => by
    show kps un be s (201 * r + j) = un (201 * r + j)
    unfold kps
    rw [if_neg (show ¬ (201 * s ≤ 201 * r + j ∧ 201 * r + j < 201 * s + 201) by omega)])
  have ec : fX3_commit (nI hn) (nI hc) = some (nI (if hn = 8 then 0 else hn + 1), nI (if hc = 8 then 8 else hc + 1)) := by
    unfold fX3_commit
    by_cases e1 : hn = 8
    · subst e1
      rw [if_pos (show (9 : Int32) ≤ nI 8 + 1 by decide), if_pos rfl]
      by_cases e2 : hc = 8
      · subst e2; rw [if_pos (show (8 : Int32) ≤ nI 8 by decide), if_pos rfl]; rfl
      · rw [if_neg (show ¬ (8 : Int32) ≤ nI hc from nI_ge (b := 8) (by omega) (by omega)), if_neg e2, nI_1]; rfl
    · rw [nI_1, if_neg (show ¬ (9 : Int32) ≤ nI (hn + 1) from nI_ge (b := 9) (by omega) (by omega)), if_neg e1]
      by_cases e2 : hc = 8
      · subst e2; rw [if_pos (show (8 : Int32) ≤ nI 8 by decide), if_pos rfl]; rfl
      · rw [if_neg (show ¬ (8 : Int32) ≤ nI hc from nI_ge (b := 8) (by omega) (by omega)), if_neg e2, nI_1]
  by_cases e2 : hc = 8
  · subst e2
    refine ⟨_, 8, (fc + 1) % 8, _, ec, by rw [m_kp un be (by omega) h3, if_pos rfl], by split <;> omega, by omega, by omega, fun i hi => ?_⟩
    by_cases e0 : i = 0
    · subst e0
      rw [show ((if hn = 8 then 0 else hn + 1) + 8 - 0) % 9 = hn by split <;> omega, show (fc + 1) % 8 + 8 - 1 - 0 = (fc + 1) % 8 + 7 by omega]
      exact hslot _ _
    · have := h4 (i - 1) (by omega)
      rw [show ((if hn = 8 then 0 else hn + 1) + 8 - i) % 9 = (hn + 8 - (i - 1)) % 9 by split <;> omega]
      refine hoth _ _ _ (by omega) ?_
      rw [show ((fc + 1) % 8 + 8 - 1 - i) % 8 = (fc + 8 - 1 - (i - 1)) % 8 by omega]
      exact this
  · rw [if_neg e2] at ec
    refine ⟨_, hc + 1, fc, _, ec, by rw [m_kp un be (by omega) h3, if_neg e2], by split <;> omega, by omega, by omega, fun i hi => ?_⟩
    by_cases e0 : i = 0
    · subst e0
      rw [show ((if hn = 8 then 0 else hn + 1) + 8 - 0) % 9 = hn by split <;> omega, show fc + (hc + 1) - 1 - 0 = fc + hc by omega]
      exact hslot _ _
    · have := h4 (i - 1) (by omega)
      rw [show ((if hn = 8 then 0 else hn + 1) + 8 - i) % 9 = (hn + 8 - (i - 1)) % 9 by split <;> omega]
      refine hoth _ _ _ (by omega) ?_
      rw [show (fc + (hc + 1) - 1 - i) % 8 = (fc + hc - 1 - (i - 1)) % 8 by omega]
      exact this
theorem W_cpy {b : Nat} {w : WT} {x : Nat → Int32} (h : WR b w x) (n1 : Int32) (f1 : Nat → Int32) (n2 : Int32) (f2 : Nat → Int32) (n3 : Int32) (f3 : Nat → Int32) (n4 : Int32) (f4 : Nat → Int32) (n5 : Int32) (f5 : Nat → Int32) (n6 : Int32) (f6 : Nat → Int32) (n7 : Int32) (f7 : Nat → Int32) (n8 : Int32) (f8 : Nat → Int32) (n9 : Int32) (f9 : Nat → Int32) (na : Int32) (fa : Nat → Int32) (nb : Int32) (fb : Nat → Int32) (nc : Int32) (fc : Nat → Int32) (nd : Int32) (fd : Nat → Int32) (ne : Int32) (fe : Nat → Int32) :
    ∃ w2, fX11_copyFrom n1 f1 n2 f2 n3 f3 n4 f4 n5 f5 n6 f6 n7 f7 n8 f8 n9 f9 na fa nb fb nc fc nd fd ne fe (wt_k w) (wt_l w) (wt_r w) (wt_sx w) (wt_sNn w) (wt_sNf w) (wt_sMn w) (wt_sMf w) (wt_sLn w) (wt_sLf w) (wt_sKn w) (wt_sKf w) (wt_cMn w) (wt_cMf w) (wt_cLn w) (wt_cLf w) (wt_cTn w) (wt_cTf w) (wt_ox w) (wt_oNn w) (wt_oNf w) (wt_oMn w) (wt_oMf w) (wt_oLn w) (wt_oLf w) (wt_oDn w) (wt_oDf w) (wt_ac w) (wt_aWn w) (wt_aWf w) (wt_aDn w) (wt_aDf w) (wt_aLn w) (wt_aLf w) = some w2 ∧ WR b w2 x := by
  obtain ⟨n, s, m, o, c, k, l, r, ac, N, M, L, K, cM, cL, T, oN, oM, oL, oD, W, D, A, rfl, h1, h2, h3, h4, h5, h6, h7, h8, h9, h10⟩ := h
  dsimp only [wt_k, wt_l, wt_r, wt_sx, wt_sNn, wt_sNf, wt_sMn, wt_sMf, wt_sLn, wt_sLf, wt_sKn, wt_sKf, wt_cMn, wt_cMf, wt_cLn, wt_cLf, wt_cTn, wt_cTf, wt_ox, wt_oNn, wt_oNf, wt_oMn, wt_oMf, wt_oLn, wt_oLf, wt_oDn, wt_oDf, wt_ac, wt_aWn, wt_aWf, wt_aDn, wt_aDf, wt_aLn, wt_aLf]
  have hn := h1.1
  have hm := h2.1
  have hc := h3.1
  unfold fX11_copyFrom fX9_copyFrom fX8_copyFrom fX5_copyFrom fX1_copyFrom
  rw [show (6 : Int32) = nI 6 from rfl]
  rw [row_cpy hn hn (by omega) (by omega), ob, row_cpy hn hn (by omega) (by omega), ob, row_cpy hn hn (by omega) (by omega), ob, row_cpy hn hn (by omega) (by omega), ob, ob, row_cpy hc hc (by omega) (by omega), ob, row_cpy hc hc (by omega) (by omega), ob, row_cpy (Nat.le_refl 6) (Nat.le_refl 6) (by omega) (by omega), ob, ob, row_cpy hm hm (by omega) (by omega), ob, row_cpy hm hm (by omega) (by omega), ob, row_cpy hm hm (by omega) (by omega), ob, row_cpy hm hm (by omega) (by omega), ob, ob, row_cpy (Nat.le_refl 6) (Nat.le_refl 6) (by omega) (by omega), ob, row_cpy (Nat.le_refl 6) (Nat.le_refl 6) (by omega) (by omega), ob, row_cpy (Nat.le_refl 6) (Nat.le_refl 6) (by omega) (by omega), ob, ob, gd_t (isC_r h5.2.2.2.2.2.2)]
  have ce : ∀ {f g : Nat → Int32} {n j : Nat}, j < n → cpy f g n j = g j := fun h => if_pos h
  refine ⟨_, rfl, n, s, m, o, c, k, l, r, ac, _, _, _, _, _, _, _, _, _, _, _, _, _, _, rfl, SR_cg h1 (fun j hj => ⟨ce hj, ce hj, ce hj, ce hj⟩), OR_cg h2 (fun j hj => ⟨ce hj, ce hj, ce hj, ce hj⟩), CR_cg h3 (fun j hj => ⟨ce hj, ce hj⟩), AR_cg h4 (fun j hj => ⟨ce hj, ce hj, ce hj, ce hj⟩), h5, h6, h7, h8, ?_, h10⟩
  obtain ⟨d, a, q1, q2, q3⟩ := h9
  exact ⟨d, a, fun j hj => ⟨(ce hj).trans (q1 j hj).1, (ce hj).trans (q1 j hj).2⟩, q2, q3⟩
