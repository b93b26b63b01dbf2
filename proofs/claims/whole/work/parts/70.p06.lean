/-! pure layer: scraps -/
theorem sub97 {a b : Int32} (h : a - 97 = b - 97) : a = b := by
  have := congrArg (· + 97) h
  simpa using this
theorem m97 {q : Nat} (h : q < 6) : nI (97 + q) - 97 = nI q := by
  have := pk_sub (a := 97 + q) (b := 97) (by omega)
  rw [show 97 + q - 97 = q by omega] at this; exact this
def CS (c : Nat) (M L : Nat → Int32) : Prop := (∀ i, i < c → mat (M i) ∧ rg (L i) 1 999) ∧ (∀ i j, i < j → j < c → L i ≤ L j)
theorem CS_del {c p : Nat} {M L : Nat → Int32} (h : CS c M L) (hp : p < c) : CS (c - 1) (del M c p) (del L c p) := by
  refine ⟨fun i hi => ?_, fun i j hi hj => ?_⟩
  · rw [del_sh (by omega), del_sh (by omega)]; exact h.1 _ (sh_lt (by omega))
  · rw [del_sh (by omega), del_sh (by omega)]; exact h.2 _ _ (sh_mono hi) (sh_lt (by omega))
theorem CS_ins {c p : Nat} {m l : Int32} {M L : Nat → Int32} (h : CS c M L) (hm : mat m) (hl : rg l 1 999) (hp : p = pos (fun j => l ≤ L j) c) : CS (c + 1) (ins M c p m) (ins L c p l) := by
  have hpn : p ≤ c := by rw [hp]; exact pos_le
  have hpb : ∀ j, j < p → ¬ l ≤ L j := by rw [hp]; exact pos_bf
  have hpa : p < c → l ≤ L p := by rw [hp]; exact pos_at
  refine ⟨fun j hj => ?_, fun j k hj hk => ?_⟩
  · rcases Nat.lt_trichotomy j p with e | e | e
    · rw [ins_lt e, ins_lt e]; exact h.1 j (by omega)
    · subst e; rw [ins_eq, ins_eq]; exact ⟨hm, hl⟩
    · rw [ins_gt e (by omega), ins_gt e (by omega)]; exact h.1 _ (by omega)
  · rcases Nat.lt_trichotomy k p with e | e | e
    · rw [ins_lt e, ins_lt (show j < p by omega)]; exact h.2 _ _ hj (by omega)
    · subst e; rw [ins_eq, ins_lt hj]; exact Int32.le_of_lt (Int32.not_le.mp (hpb j hj))
    · rw [ins_gt e (by omega)]
      have hlk : l ≤ L (k - 1) := by
        have h1 := hpa (by omega)
        by_cases hk1 : k - 1 = p
        · rw [hk1]; exact h1
        · exact Int32.le_trans h1 (h.2 _ _ (show p < k - 1 by omega) (by omega))
      rcases Nat.lt_trichotomy j p with f | f | f
      · rw [ins_lt f]; exact h.2 _ _ (by omega) (by omega)
      · subst f; rw [ins_eq]; exact hlk
      · rw [ins_gt f (by omega)]; exact h.2 _ _ (by omega) (by omega)
theorem pc_ins {c p : Nat} {m l : Int32} {M L : Nat → Int32} (hp : p ≤ c) : (lf (prc (ins M c p m) (ins L c p l)) (c + 1)).Perm ((m - 97, l) :: lf (prc M L) c) :=
  lf_ins c hp (fun j hj => by unfold prc; rw [ins_lt hj, ins_lt hj]) (by unfold prc; rw [ins_eq, ins_eq]) (fun j h1 h2 => by unfold prc; rw [ins_gt h1 h2, ins_gt h1 h2])
theorem pc_del {c p : Nat} {M L : Nat → Int32} (hp : p < c) : (lf (prc M L) c).Perm (prc M L p :: lf (prc (del M c p) (del L c p)) (c - 1)) := by
  obtain ⟨b, rfl⟩ : ∃ q, c = q + 1 := ⟨c - 1, by omega⟩
  refine lf_del b hp (fun j hj => ?_) (fun j h1 h2 => ?_)
  · show prc _ _ j = _; unfold prc; rw [del_sh (by omega), del_sh (by omega)]; unfold sh; rw [if_neg (by omega)]
  · show prc _ _ j = _; unfold prc; rw [del_sh (by omega), del_sh (by omega)]; unfold sh; rw [if_pos h1]
theorem px_del {c q : Nat} {x : Nat → Int32} (hq : q < c) : (lf (prx x) c).Perm (prx x q :: lf (fun j => prx x (sh q j)) (c - 1)) := by
  obtain ⟨b, rfl⟩ : ∃ q, c = q + 1 := ⟨c - 1, by omega⟩
  refine lf_del b hq (fun j hj => ?_) (fun j h1 h2 => ?_)
  · show prx x (sh q j) = _; unfold sh; rw [if_neg (by omega)]
  · show prx x (sh q j) = _; unfold sh; rw [if_pos h1]
theorem CR_ins {c p q l : Nat} {M L x x' : Nat → Int32} (h : CR c M L x) (hc : c < 40) (hq : q < 6) (hl : 1 ≤ l) (hl2 : l ≤ 999) (hp : p = pos (fun j => nI l ≤ L j) c)
    (h4 : x' 4 = nI (c + 1)) (ha : x' (121 + 2 * c) = nI q) (hb : x' (122 + 2 * c) = nI l) (hr : ∀ j, 121 ≤ j → j < 121 + 2 * c → x' j = x j) :
    CR (c + 1) (ins M c p (nI (97 + q))) (ins L c p (nI l)) x' := by
  obtain ⟨g1, g2, g3, g4, g5⟩ := h
  have hS := CS_ins (m := nI (97 + q)) (l := nI l) ⟨g4, g5⟩ ⟨q, hq, rfl⟩ ⟨l, hl, hl2, rfl⟩ hp
  refine ⟨by omega, h4, ?_, hS.1, hS.2⟩
  have hpn : p ≤ c := by rw [hp]; exact pos_le
  refine (pc_ins hpn).trans ?_
  show List.Perm _ (prx x' c :: lf (prx x') c)
  rw [show prx x' c = (nI (97 + q) - 97, nI l) by unfold prx; rw [ha, hb, m97 hq], lf_congr (h := prx x') (h' := prx x) c (fun j hj => by unfold prx; rw [hr _ (by omega) (by omega), hr _ (by omega) (by omega)])]
  exact g3.cons _
theorem CR_del {c p q : Nat} {M L x x' : Nat → Int32} (h : CR c M L x) (hp : p < c) (hq : q < c) (he : prc M L p = prx x q)
    (h4 : x' 4 = nI (c - 1)) (hr : ∀ j, j + 1 < c → x' (121 + 2 * j) = x (121 + 2 * sh q j) ∧ x' (122 + 2 * j) = x (122 + 2 * sh q j)) :
    CR (c - 1) (del M c p) (del L c p) x' := by
  obtain ⟨g1, g2, g3, g4, g5⟩ := h
  have hS := CS_del ⟨g4, g5⟩ hp
  refine ⟨by omega, h4, ?_, hS.1, hS.2⟩
  have k := ((pc_del hp).symm.trans g3).trans (px_del hq)
  rw [he] at k
  rw [lf_congr (h := prx x') (h' := fun j => prx x (sh q j)) (c - 1) (fun j hj => by unfold prx; rw [(hr j (by omega)).1, (hr j (by omega)).2])]
  exact k.cons_inv
theorem CR_mod {c p q p' l r : Nat} {M L x x' : Nat → Int32} (h : CR c M L x) (hp : p < c) (hq : q < c) (he : prc M L p = prx x q) (hr6 : r < 6) (hm : M p = nI (97 + r)) (hl : 1 ≤ l) (hl2 : l ≤ 999) (hp' : p' = pos (fun j => nI l ≤ del L c p j) (c - 1))
    (h4 : x' 4 = x 4) (hb : x' (122 + 2 * q) = nI l) (hr : ∀ j, 121 ≤ j → j < 201 → j ≠ 122 + 2 * q → x' j = x j) :
    CR c (ins (del M c p) (c - 1) p' (nI (97 + r))) (ins (del L c p) (c - 1) p' (nI l)) x' := by
  obtain ⟨g1, g2, g3, g4, g5⟩ := h
  have hS := CS_ins (m := nI (97 + r)) (l := nI l) (CS_del ⟨g4, g5⟩ hp) ⟨r, hr6, rfl⟩ ⟨l, hl, hl2, rfl⟩ hp'
  rw [show c - 1 + 1 = c by omega] at hS
  refine ⟨by omega, h4.trans g2, ?_, hS.1, hS.2⟩
  have hpn : p' ≤ c - 1 := by rw [hp']; exact pos_le
  have k := ((pc_del hp).symm.trans g3).trans (px_del hq)
  rw [he] at k
  have k2 := pc_ins (m := nI (97 + r)) (l := nI l) (M := del M c p) (L := del L c p) hpn
  rw [show c - 1 + 1 = c by omega] at k2
  refine k2.trans ((k.cons_inv.cons _).trans ?_)
  refine List.Perm.trans ?_ (px_del (x := x') hq).symm
  have e1 : prx x q = (nI (97 + r) - 97, L p) := by rw [← he]; unfold prc; rw [hm]
  have e2 : prx x' q = (nI (97 + r) - 97, nI l) := by
    have := congrArg Prod.fst e1
    unfold prx at this ⊢
    rw [hr _ (by omega) (by omega) (by omega), hb]
    exact Prod.ext this rfl
  rw [e2, lf_congr (h := fun j => prx x' (sh q j)) (h' := fun j => prx x (sh q j)) (c - 1) (fun j hj => by
    have h1 : sh q j < c := sh_lt (by omega)
    have h2 : sh q j ≠ q := sh_ne
    show prx x' (sh q j) = prx x (sh q j)
    unfold prx; rw [hr _ (by omega) (by omega) (by omega), hr _ (by omega) (by omega) (by omega)])]
def mnz (P : Nat → Prop) [DecidablePred P] (g : Nat → Int32) (b : Option Nat) (i : Nat) : Option Nat :=
  if P i then (match b with
    | none => some i
    | some q => if g q ≤ g i then some q else some i) else b
theorem mnz_n {P : Nat → Prop} [DecidablePred P] {g : Nat → Int32} {b : Option Nat} {i : Nat} (h : ¬ P i) : mnz P g b i = b := if_neg h
theorem mnz_0 {P : Nat → Prop} [DecidablePred P] {g : Nat → Int32} {i : Nat} (h : P i) : mnz P g none i = some i := if_pos h
theorem mnz_s {P : Nat → Prop} [DecidablePred P] {g : Nat → Int32} {q i : Nat} (h : P i) : mnz P g (some q) i = if g q ≤ g i then some q else some i := if_pos h
def mnG (P : Nat → Prop) (g : Nat → Int32) (c : Nat) (b : Option Nat) : Prop := match b with
  | none => ∀ j, j < c → ¬ P j
  | some q => q < c ∧ P q ∧ ∀ j, j < c → P j → g q ≤ g j
theorem mnz_fld {P : Nat → Prop} [DecidablePred P] {g : Nat → Int32} : ∀ (c : Nat), mnG P g c (fld (mnz P g) c 0 none) := by
  intro c
  induction c with
  | zero => exact fun j hj => absurd hj (Nat.not_lt_zero _)
  | succ c ih =>
    rw [fld_snoc, Nat.zero_add]
    generalize fld (mnz P g) c 0 none = b at ih ⊢
    by_cases hP : P c
    · cases b with
      | none =>
        rw [mnz_0 hP]
        refine ⟨by omega, hP, fun j hj hj2 => ?_⟩
        by_cases e : j = c
        · subst e; exact Int32.le_refl _
        · exact absurd hj2 (ih j (by omega))
      | some q =>
        obtain ⟨i1, i2, i3⟩ := ih
        rw [mnz_s hP]
        by_cases hg : g q ≤ g c
        · rw [if_pos hg]
          refine ⟨by omega, i2, fun j hj hj2 => ?_⟩
          by_cases e : j = c
          · subst e; exact hg
          · exact i3 j (by omega) hj2
        · rw [if_neg hg]
          refine ⟨by omega, hP, fun j hj hj2 => ?_⟩
          by_cases e : j = c
          · subst e; exact Int32.le_refl _
          · exact Int32.le_trans (Int32.le_of_lt (Int32.not_le.mp hg)) (i3 j (by omega) hj2)
    · rw [mnz_n hP]
      cases b with
      | none =>
        intro j hj
        by_cases e : j = c
        · subst e; exact hP
        · exact ih j (by omega)
      | some q =>
        obtain ⟨i1, i2, i3⟩ := ih
        refine ⟨by omega, i2, fun j hj hj2 => ?_⟩
        by_cases e : j = c
        · subst e; exact absurd hj2 hP
        · exact i3 j (by omega) hj2
theorem m_sf_L {c a : Nat} {x : Nat → Int32} (hc : c ≤ 40) (ha : a < 13) (h4 : x 4 = nI c) : ∀ (d k i : Nat) (b : Option Nat), d < k → i + d = c → (∀ q, b = some q → q < c) →
    fX13_scrapFor_L4 (nI a) x k (oI b) (nI i) = some (oI (fld (mnz (fun j => x (121 + 2 * j) = x (74 + 4 * a) ∧ x (75 + 4 * a) ≤ x (122 + 2 * j)) (fun j => x (122 + 2 * j))) d i b)) := by
  intro d
  induction d with
  | zero =>
    intro k i b hk hi hb
    obtain ⟨k, rfl⟩ : ∃ q, k = q + 1 := ⟨k - 1, by omega⟩
    rw [fX13_scrapFor_L4, h4, if_pos (nI_le (by omega) (by omega))]; rfl
  | succ d ih =>
    intro k i b hk hi hb
    obtain ⟨k, rfl⟩ : ∃ q, k = q + 1 := ⟨k - 1, by omega⟩
    rw [fX13_scrapFor_L4, h4, if_neg (nI_ge (by omega) (by omega)), m_sc0 (by omega), ob, m_or1 ha, ob, m_sc1 (by omega), ob, m_or2 ha, ob, nI_1, tl_fld]
    by_cases h1 : x (121 + 2 * i) = x (74 + 4 * a)
    · rw [if_pos h1]
      by_cases h2 : x (75 + 4 * a) ≤ x (122 + 2 * i)
      · rw [if_pos h2]
        cases b with
        | none => rw [mnz_0 ⟨h1, h2⟩, if_pos (show oI none < 0 by decide)]; exact ih _ _ (some i) (by omega) (by omega) (fun q e => by injection e with e; omega)
        | some q =>
          have hq := hb q rfl
          rw [mnz_s ⟨h1, h2⟩, if_neg (show ¬ oI (some q) < 0 from nI_pos (by omega)), ob, show oI (some q) = nI q from rfl, m_sc1 (by omega), ob]
          by_cases h3 : x (122 + 2 * q) ≤ x (122 + 2 * i)
          · rw [if_pos h3, if_pos h3]; exact ih _ _ (some q) (by omega) (by omega) hb
          · rw [if_neg h3, if_neg h3]; exact ih _ _ (some i) (by omega) (by omega) (fun q e => by injection e with e; omega)
      · rw [if_neg h2, ih _ _ _ (by omega) (by omega) hb, mnz_n (fun q => h2 q.2)]
    · rw [if_neg h1, ih _ _ _ (by omega) (by omega) hb, mnz_n (fun q => h1 q.1)]
theorem m_sf {c a : Nat} {x : Nat → Int32} (hc : c ≤ 40) (ha : a < 13) (h4 : x 4 = nI c) :
    fX13_scrapFor x (nI a) = some (oI (fld (mnz (fun j => x (121 + 2 * j) = x (74 + 4 * a) ∧ x (75 + 4 * a) ≤ x (122 + 2 * j)) (fun j => x (122 + 2 * j))) c 0 none)) :=
  m_sf_L hc ha h4 c FU 0 none (FU_lt (by omega)) (by omega) (fun q e => by cases e)
theorem scr_eq {c a : Nat} {M L x : Nat → Int32} {om ol : Int32} (h : CR c M L x) (h1 : x (74 + 4 * a) = om - 97) (h2 : x (75 + 4 * a) = ol) (b1 b2 : Option Nat)
    (e1 : b1 = fnd (fun j => M j = om ∧ ¬ L j < ol) c 0) (e2 : b2 = fld (mnz (fun j => x (121 + 2 * j) = x (74 + 4 * a) ∧ x (75 + 4 * a) ≤ x (122 + 2 * j)) (fun j => x (122 + 2 * j))) c 0 none) :
    (b1 = none ∧ b2 = none) ∨ ∃ p q, b1 = some p ∧ b2 = some q ∧ p < c ∧ q < c ∧ M p = om ∧ ol ≤ L p ∧ prc M L p = prx x q := by
  obtain ⟨g1, g2, g3, g4, g5⟩ := h
  have tr1 : ∀ p, p < c → M p = om → ¬ L p < ol → ∃ j, j < c ∧ x (121 + 2 * j) = om - 97 ∧ x (122 + 2 * j) = L p ∧ ol ≤ x (122 + 2 * j) := by
    intro p hp k1 k2
    obtain ⟨j, hj, e⟩ := (lf_mem c).mp (g3.subset ((lf_mem c).mpr ⟨p, hp, rfl⟩))
    have e3 := congrArg Prod.fst e
    have e4 := congrArg Prod.snd e
    replace e3 : x (121 + 2 * j) = M p - 97 := e3
    replace e4 : x (122 + 2 * j) = L p := e4
    exact ⟨j, hj, by rw [e3, k1], e4, by rw [e4]; exact Int32.not_lt.mp k2⟩
  have tr2 : ∀ j, j < c → x (121 + 2 * j) = om - 97 → ol ≤ x (122 + 2 * j) → ∃ p, p < c ∧ M p = om ∧ L p = x (122 + 2 * j) := by
    intro j hj k1 k2
    obtain ⟨p, hp, e⟩ := (lf_mem c).mp (g3.symm.subset ((lf_mem c).mpr ⟨j, hj, rfl⟩))
    have e3 := congrArg Prod.fst e
    have e4 := congrArg Prod.snd e
    replace e3 : M p - 97 = x (121 + 2 * j) := e3
    replace e4 : L p = x (122 + 2 * j) := e4
    exact ⟨p, hp, sub97 (e3.trans k1), e4⟩
  have hm := mnz_fld (P := fun j => x (121 + 2 * j) = x (74 + 4 * a) ∧ x (75 + 4 * a) ≤ x (122 + 2 * j)) (g := fun j => x (122 + 2 * j)) c
  rw [← e2] at hm
  cases b1 with
  | none =>
    have hn := fnd_none _ _ e1.symm
    refine Or.inl ⟨rfl, ?_⟩
    cases b2 with
    | none => rfl
    | some q =>
      obtain ⟨i1, ⟨i2, i3⟩, i4⟩ := hm
      rw [h1] at i2; rw [h2] at i3
      obtain ⟨p, hp, k1, k2⟩ := tr2 q i1 i2 i3
      exact absurd ⟨k1, by rw [k2]; exact Int32.not_lt.mpr i3⟩ (hn p (Nat.zero_le _) (by omega))
  | some p =>
    obtain ⟨f1, f2, ⟨f3, f4⟩, f5⟩ := fnd_some _ _ _ e1.symm
    rw [Nat.zero_add] at f2
    obtain ⟨j, hj, k1, k2, k3⟩ := tr1 p f2 f3 f4
    cases b2 with
    | none => exact absurd ⟨k1.trans h1.symm, by rw [h2]; exact k3⟩ (hm j hj)
    | some q =>
      obtain ⟨i1, ⟨i2, i3⟩, i4⟩ := hm
      refine Or.inr ⟨p, q, rfl, rfl, f2, i1, f3, Int32.not_lt.mp f4, ?_⟩
      have l1 := i4 j hj ⟨k1.trans h1.symm, by rw [h2]; exact k3⟩
      replace l1 : x (122 + 2 * q) ≤ x (122 + 2 * j) := l1
      rw [k2] at l1
      rw [h1] at i2; rw [h2] at i3
      obtain ⟨p2, hp2, m1, m2⟩ := tr2 q i1 i2 i3
      have l2 : L p ≤ L p2 := by
        by_cases e : p2 < p
        · exact absurd ⟨m1, by rw [m2]; exact Int32.not_lt.mpr i3⟩ (f5 p2 (Nat.zero_le _) e)
        · by_cases e : p = p2
          · subst e; exact Int32.le_refl _
          · exact g5 _ _ (by omega) hp2
      rw [m2] at l2
      unfold prc prx
      rw [f3, i2, Int32.le_antisymm l2 l1]
