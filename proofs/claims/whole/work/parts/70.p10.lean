/-! pure layer: taking an order -/
def aoF (x1 : Int32) (x2 : Int32) (x3 : Int32) (x4 : Int32) (uw : Nat → Int32) : Option (Int32 × (Nat → Int32)) :=
  gd (inR ((73 + (4 * x4)) + 0) 201) <|
  gd (inR ((73 + (4 * x4)) + 1) 201) <|
  gd (inR ((73 + (4 * x4)) + 2) 201) <|
  gd (inR ((73 + (4 * x4)) + 3) 201) <|
  some (((upd (upd (upd (upd (upd (upd uw (((73 + (4 * x4)) + 0).toNatClampNeg) (uw 3)) (((73 + (4 * x4)) + 1).toNatClampNeg) (x1 - 97)) (((73 + (4 * x4)) + 2).toNatClampNeg) x2) (((73 + (4 * x4)) + 3).toNatClampNeg) x3) 2 (((upd (upd (upd (upd uw (((73 + (4 * x4)) + 0).toNatClampNeg) (uw 3)) (((73 + (4 * x4)) + 1).toNatClampNeg) (x1 - 97)) (((73 + (4 * x4)) + 2).toNatClampNeg) x2) (((73 + (4 * x4)) + 3).toNatClampNeg) x3) 2) + 1)) 3 (((upd (upd (upd (upd (upd uw (((73 + (4 * x4)) + 0).toNatClampNeg) (uw 3)) (((73 + (4 * x4)) + 1).toNatClampNeg) (x1 - 97)) (((73 + (4 * x4)) + 2).toNatClampNeg) x2) (((73 + (4 * x4)) + 3).toNatClampNeg) x3) 2 (((upd (upd (upd (upd uw (((73 + (4 * x4)) + 0).toNatClampNeg) (uw 3)) (((73 + (4 * x4)) + 1).toNatClampNeg) (x1 - 97)) (((73 + (4 * x4)) + 2).toNatClampNeg) x2) (((73 + (4 * x4)) + 3).toNatClampNeg) x3) 2) + 1)) 3) + 1)) 3) - 1, upd (upd (upd (upd (upd (upd uw (((73 + (4 * x4)) + 0).toNatClampNeg) (uw 3)) (((73 + (4 * x4)) + 1).toNatClampNeg) (x1 - 97)) (((73 + (4 * x4)) + 2).toNatClampNeg) x2) (((73 + (4 * x4)) + 3).toNatClampNeg) x3) 2 (((upd (upd (upd (upd uw (((73 + (4 * x4)) + 0).toNatClampNeg) (uw 3)) (((73 + (4 * x4)) + 1).toNatClampNeg) (x1 - 97)) (((73 + (4 * x4)) + 2).toNatClampNeg) x2) (((73 + (4 * x4)) + 3).toNatClampNeg) x3) 2) + 1)) 3 (((upd (upd (upd (upd (upd uw (((73 + (4 * x4)) + 0).toNatClampNeg) (uw 3)) (((73 + (4 * x4)) + 1).toNatClampNeg) (x1 - 97)) (((73 + (4 * x4)) + 2).toNatClampNeg) x2) (((73 + (4 * x4)) + 3).toNatClampNeg) x3) 2 (((upd (upd (upd (upd uw (((73 + (4 * x4)) + 0).toNatClampNeg) (uw 3)) (((73 + (4 * x4)) + 1).toNatClampNeg) (x1 - 97)) (((73 + (4 * x4)) + 2).toNatClampNeg) x2) (((73 + (4 * x4)) + 3).toNatClampNeg) x3) 2) + 1)) 3) + 1))
theorem ao_un {x1 x2 x3 x4 : Int32} {k : Nat} {uw : Nat → Int32} : fX13_addsOrder_L8 x1 x2 x3 (k + 1) x4 uw = if x4 ≤ 0 then aoF x1 x2 x3 x4 uw else (fX13_orderOf uw (x4 - 1) 3).bind fun z6 => if z6 ≤ x3 then aoF x1 x2 x3 x4 uw else fX13_addsOrder_L29 (fX13_addsOrder_L8 x1 x2 x3 k) x4 FU 0 uw := rfl
theorem ao_F {y : Nat → Int32} {m s p q : Nat} {l d : Int32} (hm : m < 12) (hp : p ≤ m) (hq : q < 6) (h2 : y 2 = nI m) (h3 : y 3 = nI s) :
    ∃ x', aoF (nI (97 + q)) l d (nI p) y = some (nI s, x') ∧ x' 2 = nI (m + 1) ∧ x' 3 = nI (s + 1) ∧ x' (73 + 4 * p) = nI s ∧ x' (74 + 4 * p) = nI q ∧ x' (75 + 4 * p) = l ∧ x' (76 + 4 * p) = d ∧ (∀ j, j ≠ 2 → j ≠ 3 → j < 73 + 4 * p ∨ 77 + 4 * p ≤ j → x' j = y j) := by
  have e0 : (73 : Int32) + 4 * nI p + 0 = nI (73 + 4 * p) := by rw [show (73 : Int32) = nI 73 from rfl, show (4 : Int32) = nI 4 from rfl, pk_mul, nI_add]; exact Int32.add_zero _
  have e1 : (73 : Int32) + 4 * nI p + 1 = nI (74 + 4 * p) := by rw [show (73 : Int32) = nI 73 from rfl, show (4 : Int32) = nI 4 from rfl, pk_mul, nI_add, nI_1]; congr 1; omega
  have e2 : (73 : Int32) + 4 * nI p + 2 = nI (75 + 4 * p) := by rw [show (73 : Int32) = nI 73 from rfl, show (4 : Int32) = nI 4 from rfl, show (2 : Int32) = nI 2 from rfl, pk_mul, nI_add, nI_add]; congr 1; omega
  have e3 : (73 : Int32) + 4 * nI p + 3 = nI (76 + 4 * p) := by rw [show (73 : Int32) = nI 73 from rfl, show (4 : Int32) = nI 4 from rfl, show (3 : Int32) = nI 3 from rfl, pk_mul, nI_add, nI_add]; congr 1; omega
  unfold aoF
  simp only [h3, e0, e1, e2, e3]
  rw [gd_t (inR_n (by omega) (by omega)), gd_t (inR_n (by omega) (by omega)), gd_t (inR_n (by omega) (by omega)), gd_t (inR_n (by omega) (by omega))]
  simp only [nI_clamp (show 73 + 4 * p < 2 ^ 31 by omega), nI_clamp (show 74 + 4 * p < 2 ^ 31 by omega), nI_clamp (show 75 + 4 * p < 2 ^ 31 by omega), nI_clamp (show 76 + 4 * p < 2 ^ 31 by omega), m97 hq]
  refine ⟨_, congrArg some (Prod.ext ?_ rfl), ?_, ?_, ?_, ?_, ?_, ?_, ?_⟩
  · show upd _ 3 _ 3 - 1 = nI s
    rw [pk_us, pk_un (show 3 ≠ 2 by decide), pk_un (show 3 ≠ 76 + 4 * p by omega), pk_un (show 3 ≠ 75 + 4 * p by omega), pk_un (show 3 ≠ 74 + 4 * p by omega), pk_un (show 3 ≠ 73 + 4 * p by omega), h3]
    rw [nI_1]; exact nI_pred s
  · rw [pk_un (show 2 ≠ 3 by decide), pk_us, pk_un (show 2 ≠ 76 + 4 * p by omega), pk_un (show 2 ≠ 75 + 4 * p by omega), pk_un (show 2 ≠ 74 + 4 * p by omega), pk_un (show 2 ≠ 73 + 4 * p by omega), h2]
    exact nI_1 m
  · rw [pk_us, pk_un (show 3 ≠ 2 by decide), pk_un (show 3 ≠ 76 + 4 * p by omega), pk_un (show 3 ≠ 75 + 4 * p by omega), pk_un (show 3 ≠ 74 + 4 * p by omega), pk_un (show 3 ≠ 73 + 4 * p by omega), h3]
    exact nI_1 s
  · rw [pk_un (by omega), pk_un (by omega), pk_un (by omega), pk_un (by omega), pk_un (by omega), pk_us]
  · rw [pk_un (by omega), pk_un (by omega), pk_un (by omega), pk_un (by omega), pk_us]
  · rw [pk_un (by omega), pk_un (by omega), pk_un (by omega), pk_us]
  · rw [pk_un (by omega), pk_un (by omega), pk_us]
  · intro j j1 j2 j3
    rw [pk_un j2, pk_un j1, pk_un (by omega), pk_un (by omega), pk_un (by omega), pk_un (by omega)]
theorem m_sh_L {K : Int32 → (Nat → Int32) → Option (Int32 × (Nat → Int32))} {e : Nat} (he : 1 ≤ e) (he2 : e ≤ 12) : ∀ (d k c : Nat) (x : Nat → Int32), d < k → c + d = 4 → 
    fX13_addsOrder_L29 K (nI e) k (nI c) x = K (nI e + (-1)) (fun j => if 73 + 4 * e + c ≤ j ∧ j < 77 + 4 * e then x (j - 4) else x j) := by
  obtain ⟨f, rfl⟩ : ∃ q, e = q + 1 := ⟨e - 1, by omega⟩
  intro d
  induction d with
  | zero =>
    intro k c x hk hc
    obtain ⟨k, rfl⟩ : ∃ q, k = q + 1 := ⟨k - 1, by omega⟩
    rw [fX13_addsOrder_L29, if_pos (show (4 : Int32) ≤ nI c from nI_le (a := 4) (by omega) (by omega))]
    congr 1
    funext j
    rw [if_neg (by omega)]
  | succ d ih =>
    intro k c x hk hc
    obtain ⟨k, rfl⟩ : ∃ q, k = q + 1 := ⟨k - 1, by omega⟩
    have e0 : (73 : Int32) + 4 * nI (f + 1) + nI c = nI (73 + 4 * (f + 1) + c) := by rw [show (73 : Int32) = nI 73 from rfl, show (4 : Int32) = nI 4 from rfl, pk_mul, nI_add, nI_add]
    rw [fX13_addsOrder_L29, if_neg (show ¬ (4 : Int32) ≤ nI c from nI_ge (b := 4) (by omega) (by omega)), nI_pred, m_orc (by omega) (by omega), ob, e0, gd_t (inR_n (by omega) (by omega)), nI_clamp (by omega), nI_1, ih _ _ _ (by omega) (by omega)]
    congr 1
    funext j
    simp only [upd_e]
    by_cases h1 : 73 + 4 * (f + 1) + (c + 1) ≤ j ∧ j < 77 + 4 * (f + 1)
    · rw [if_pos h1, if_pos (show 73 + 4 * (f + 1) + c ≤ j ∧ j < 77 + 4 * (f + 1) by omega), if_neg (by omega)]
    · rw [if_neg h1]
      by_cases h2 : j = 73 + 4 * (f + 1) + c
      · rw [if_pos h2, if_pos (show 73 + 4 * (f + 1) + c ≤ j ∧ j < 77 + 4 * (f + 1) by omega)]; congr 1; omega
      · rw [if_neg h2, if_neg (show ¬ (73 + 4 * (f + 1) + c ≤ j ∧ j < 77 + 4 * (f + 1)) by omega)]
theorem m_ao_L {m s p q : Nat} {l d : Int32} {x : Nat → Int32} (hm : m < 12) (hp : p ≤ m) (hq : q < 6) (h2 : x 2 = nI m) (h3 : x 3 = nI s)
    (hb : 0 < p → x (76 + 4 * (p - 1)) ≤ d) (ha : ∀ j, p ≤ j → j < m → ¬ x (76 + 4 * j) ≤ d) : ∀ (r k e : Nat) (y : Nat → Int32), r < k → e = p + r → e ≤ m → (∀ j, j < 73 + 4 * e → y j = x j) → (∀ j, 77 + 4 * e ≤ j → j < 77 + 4 * m → y j = x (j - 4)) → (∀ j, 77 + 4 * m ≤ j → y j = x j) →
    ∃ x', fX13_addsOrder_L8 (nI (97 + q)) l d k (nI e) y = some (nI s, x') ∧ x' 2 = nI (m + 1) ∧ x' 3 = nI (s + 1) ∧ x' (73 + 4 * p) = nI s ∧ x' (74 + 4 * p) = nI q ∧ x' (75 + 4 * p) = l ∧ x' (76 + 4 * p) = d ∧ (∀ j, j ≠ 2 → j ≠ 3 → j < 73 + 4 * p → x' j = x j) ∧ (∀ j, 77 + 4 * p ≤ j → j < 77 + 4 * m → x' j = x (j - 4)) ∧ (∀ j, 77 + 4 * m ≤ j → x' j = x j) := by
  intro r
  induction r with
  | zero =>
    intro k e y hk he hem y1 y2 y3
    obtain ⟨k, rfl⟩ : ∃ q, k = q + 1 := ⟨k - 1, by omega⟩
    have hpe : e = p := by omega
    subst hpe
    obtain ⟨x', r1, r2, r3, r4, r5, r6, r7, r8⟩ := ao_F (y := y) (l := l) (d := d) hm hem hq ((y1 2 (by omega)).trans h2) ((y1 3 (by omega)).trans h3)
    have fin : ∃ x', aoF (nI (97 + q)) l d (nI e) y = some (nI s, x') ∧ x' 2 = nI (m + 1) ∧ x' 3 = nI (s + 1) ∧ x' (73 + 4 * e) = nI s ∧ x' (74 + 4 * e) = nI q ∧ x' (75 + 4 * e) = l ∧ x' (76 + 4 * e) = d ∧ (∀ j, j ≠ 2 → j ≠ 3 → j < 73 + 4 * e → x' j = x j) ∧ (∀ j, 77 + 4 * e ≤ j → j < 77 + 4 * m → x' j = x (j - 4)) ∧ (∀ j, 77 + 4 * m ≤ j → x' j = x j) :=
      ⟨x', r1, r2, r3, r4, r5, r6, r7, fun j j1 j2 j3 => (r8 j j1 j2 (Or.inl j3)).trans (y1 j j3), fun j j1 j2 => (r8 j (by omega) (by omega) (by omega)).trans (y2 j j1 j2), fun j j1 => (r8 j (by omega) (by omega) (by omega)).trans (y3 j j1)⟩
    rw [ao_un]
    by_cases h0 : e = 0
    · subst h0; rw [if_pos (show nI 0 ≤ 0 by decide)]; exact fin
    · obtain ⟨f, rfl⟩ : ∃ q, e = q + 1 := ⟨e - 1, by omega⟩
      rw [if_neg (nI_nle (by omega) (by omega)), nI_pred, m_or3 (by omega), ob, y1 _ (by omega), if_pos (show x (76 + 4 * f) ≤ d from hb (by omega))]
      exact fin
  | succ r ih =>
    intro k e y hk he hem y1 y2 y3
    obtain ⟨k, rfl⟩ : ∃ q, k = q + 1 := ⟨k - 1, by omega⟩
    obtain ⟨f, rfl⟩ : ∃ q, e = q + 1 := ⟨e - 1, by omega⟩
    rw [ao_un, if_neg (nI_nle (by omega) (by omega)), nI_pred, m_or3 (by omega), ob, y1 _ (by omega), if_neg (ha f (by omega) (by omega)), show (0 : Int32) = nI 0 from rfl, m_sh_L (by omega) (by omega) 4 FU 0 y (FU_lt (by omega)) rfl, pk_m1]
    refine ih k f _ (by omega) (by omega) (by omega) (fun j hj => ?_) (fun j j1 j2 => ?_) (fun j j1 => ?_)
    · rw [if_neg (by omega)]; exact y1 j (by omega)
    · by_cases g : 73 + 4 * (f + 1) + 0 ≤ j ∧ j < 77 + 4 * (f + 1)
      · rw [if_pos g]; exact y1 _ (by omega)
      · rw [if_neg g]; exact y2 j (by omega) j2
    · rw [if_neg (by omega)]; exact y3 j j1
theorem S_take {b : Nat} {w : WT} {x : Nat → Int32} (h : WR b w x) (hb : b < 90000) (p1 p2 p3 : Int32) :
    SIM (b + 1) w ["java/lang/IllegalArgumentException", "java/lang/IllegalStateException"] (hX11_takeOrder w p1 p2 p3) (fX13_notOrder x p1 p2 p3) (fX13_addsOrder x p1 p2 p3) := by
  obtain ⟨n, s, m, o, c, k, l, r, ac, N, M, L, K, cM, cL, T, oN, oM, oL, oD, W, D, A, rfl, h1, h2, h3, h4, h5, h6, h7, h8, h9, h10⟩ := h
  have hm := h2.1
  unfold hX11_takeOrder
  dsimp only [wt_k, wt_l, wt_r, wt_sx, wt_sNn, wt_sNf, wt_sMn, wt_sMf, wt_sLn, wt_sLf, wt_sKn, wt_sKf, wt_cMn, wt_cMf, wt_cLn, wt_cLf, wt_cTn, wt_cTf, wt_ox, wt_oNn, wt_oNf, wt_oMn, wt_oMf, wt_oLn, wt_oLf, wt_oDn, wt_oDf, wt_ac, wt_aWn, wt_aWf, wt_aDn, wt_aDf, wt_aLn, wt_aLf]
  unfold fX11_takeOrder fX13_notOrder
  rcases mat_cs p1 with ⟨e1, e2⟩ | ⟨q, hq, rfl, e1, e2⟩
  · rw [e1, e2, ob, ob]
    exact Or.inl ⟨_, 1, rfl, rfl, by decide, kxI⟩
  · rw [e1, e2, ob, ob, exO, if_neg (show ¬ (1 : Int32) = 0 by decide), btw, btw, ob, ob]
    by_cases g1 : p2 < 1
    · simp only [if_pos g1]
      exact Or.inl ⟨_, 1, rfl, rfl, by decide, kxI⟩
    · simp only [if_neg g1]
      by_cases g2 : 200 < p2
      · simp only [if_neg (Int32.not_le.mpr g2), if_pos g2]
        exact Or.inl ⟨_, 1, rfl, rfl, by decide, kxI⟩
      · simp only [if_pos (Int32.not_lt.mp g2), if_neg g2, if_neg (show ¬ (1 : Int32) = 0 by decide)]
        unfold fX11_requireDay
        by_cases g3 : p3 < 1
        · simp only [if_pos g3]
          exact Or.inl ⟨_, 1, rfl, rfl, by decide, kxI⟩
        · simp only [if_neg g3]
          by_cases g4 : 99 < p3
          · simp only [if_neg (Int32.not_le.mpr g4), if_pos g4]
            exact Or.inl ⟨_, 1, rfl, rfl, by decide, kxI⟩
          · simp only [if_pos (Int32.not_lt.mp g4), if_neg g4, if_neg (show ¬ (1 : Int32) = 0 by decide)]
            obtain ⟨a, a1, a2, rfl⟩ := in_btw (lo := 1) (hi := 200) (by omega) (by omega) g1 g2
            obtain ⟨d, d1, d2, rfl⟩ := in_btw (lo := 1) (hi := 99) (by omega) (by omega) g3 g4
            rw [ob, exO, fX5_count, fX7_size, ob, ob, h2.2.1]
            by_cases g5 : m = 12
            · subst g5
              rw [if_neg (show ¬ nI 12 < 12 by decide), if_pos (show nI 12 = 12 from rfl)]
              refine Or.inl ⟨_, 2, rfl, rfl, by decide, ?_⟩
              decide
            · have g6 : nI m < (12 : Int32) := (nI_lt (show m < 12 by omega) (by omega) : nI m < nI 12)
              have g7 : ¬ nI m = (12 : Int32) := fun e => g5 ((nI_eq (b := 12) (by omega) (by omega)).mp e)
              have hpm : pos (fun j => nI d < oD j) m ≤ m := pos_le
              have hx3 : ∀ j, j < m → x (76 + 4 * j) = oD j := fun j hj => (h2.2.2.2.1 j hj).2.2.2
              have hbf := pos_bf (P := fun j => nI d < oD j) (n := m)
              have hat := pos_at (P := fun j => nI d < oD j) (n := m)
              generalize hp : pos (fun j => nI d < oD j) m = p at *
              obtain ⟨x', r1, r2, r3, r4, r5, r6, r7, r8, r9, r10⟩ := m_ao_L (x := x) (s := o) (q := q) (l := nI a) (d := nI d) (m := m) (p := p) (by omega) hpm hq h2.2.1 h2.2.2.1 (fun h0 => by
                rw [hx3 _ (by omega)]; exact Int32.not_lt.mp (hbf _ (by omega))) (fun j j1 j2 => by
                rw [hx3 _ j2]
                refine Int32.not_le.mpr ?_
                by_cases e : j = p
                · subst e; exact hat j2
                · have h0 := hat (by omega)
                  rcases h2.2.2.2.2.2 p j (by omega) j2 with q | q
                  · exact Int32.lt_trans h0 q
                  · rw [← q.1]; exact h0) (m - p) FU m x (FU_lt (by omega)) (by omega) (Nat.le_refl _) (fun _ _ => rfl) (fun j j1 j2 => by omega) (fun _ _ => rfl)
              rw [if_pos g6, if_neg g7, or_add (by omega), ob, hp]
              have ea : fX13_addsOrder x (nI (97 + q)) (nI a) (nI d) = some (nI o, x') := by
                unfold fX13_addsOrder; rw [h2.2.1]; exact r1
              refine Or.inr ⟨nI o, _, x', rfl, rfl, ea, n, s, m + 1, o + 1, c, k, l, r, ac, N, M, L, K, cM, cL, T, _, _, _, _, W, D, A, ?_, SR_fr h1 ?_, OR_add h2 (by omega) (by omega) hq a1 a2 d1 d2 hp.symm r2 r3 r4 r5 r6 r7 ?_ ?_, CR_fr h3 ?_, AR_fr h4 ?_, SE_fr h5 ?_, by omega, by omega, by omega, BR_mono h9 (by omega), by omega⟩
              · rw [nI_1]
              · intro j hj
                by_cases f : j < 73 + 4 * p
                · exact r8 j (by omega) (by omega) f
                · omega
              · intro j c j1 j2; exact r8 _ (by omega) (by omega) (by omega)
              · intro j c j1 j2 j3; rw [r9 _ (by omega) (by omega)]; congr 1; omega
              · intro j hj
                by_cases f : j = 4
                · exact r8 j (by omega) (by omega) (by omega)
                · exact r10 j (by omega)
              · intro j hj; exact r8 j (by omega) (by omega) (by omega)
              · intro j hj; exact r8 j (by omega) (by omega) (by omega)
