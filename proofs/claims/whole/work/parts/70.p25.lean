/-! pure layer: consistency -/
theorem c_la {n m k : Nat} {s : Nat} {N M L K oM oL x : Nat → Int32} {ol : Nat → Nat} (h1 : SR n s N M L K x) (hk : k ≤ 5) (hm : m ≤ 12) (hoL : ∀ j, j < m → oL j = nI (ol j)) (hoM : ∀ j, j < m → mat (oM j)) (hol : ∀ j, j < m → 1 ≤ ol j ∧ ol j ≤ 200) : ∀ (d fu i : Nat) (lt : Nat → Int32) (pn : Int32) (pf : Nat → Int32), d < fu → i + d = n →
    ∃ lt' pn' pf', fX12_loadsAgree_L2 (nI k) (nI n) (nI n) M (nI n) L (nI m) (nI m) oM (nI m) oL fu (nI i) lt pn pf = some (1, lt', pn', pf') := by
  have hn := h1.1
  intro d
  induction d with
  | zero =>
    intro fu i lt pn pf hfu hi
    obtain ⟨fu, rfl⟩ : ∃ q, fu = q + 1 := ⟨fu - 1, by omega⟩
    exact ⟨lt, pn, pf, by rw [fX12_loadsAgree_L2, fX9_count, fX7_size, ob, ob, if_pos (nI_le (by omega) (by omega))]⟩
  | succ d ih =>
    intro fu i lt pn pf hfu hi
    obtain ⟨fu, rfl⟩ : ∃ q, fu = q + 1 := ⟨fu - 1, by omega⟩
    obtain ⟨⟨q, hq, u1⟩, ⟨a, kk, u2, u3, u4, u5⟩, _⟩ := h1.2.2.2.2.1 i (by omega)
    obtain ⟨g, n', f', b1⟩ := c_bt (ut := lt) (pf := pf) hn (show i < n by omega) hq u1 u4 (by omega) hk hm hoL hoM hol
    obtain ⟨n2, f2, b2⟩ := c_br (pf := f') hn (show i < n by omega) hq u1 u4 (by omega) hk hm hoL hoM hol
    rw [fX12_loadsAgree_L2, fX9_count, fX7_size, ob, ob, if_neg (nI_ge (by omega) (by omega)), b1, ob, b2, ob, if_pos rfl, nI_1]
    exact ih fu (i + 1) _ _ _ (by omega) (by omega)
theorem m_cs {m o : Nat} {oN oM oL oD x : Nat → Int32} (h : OR m o oN oM oL oD x) : ∀ (d fu i : Nat), d < fu → i + d = m + 1 → 0 < i → fX13_isConsistent_L40 0 x fu (nI i) = some (1, 0) := by
  have hm := h.1
  intro d
  induction d with
  | zero =>
    intro fu i hfu hi h0
    obtain ⟨fu, rfl⟩ : ∃ q, fu = q + 1 := ⟨fu - 1, by omega⟩
    rw [fX13_isConsistent_L40, h.2.1, if_pos (nI_le (by omega) (by omega))]
  | succ d ih =>
    intro fu i hfu hi h0
    obtain ⟨fu, rfl⟩ : ∃ q, fu = q + 1 := ⟨fu - 1, by omega⟩
    rw [fX13_isConsistent_L40, h.2.1]
    by_cases e : m ≤ i
    · rw [if_pos (nI_le e (by omega))]
    · obtain ⟨f, rfl⟩ : ∃ q, i = q + 1 := ⟨i - 1, by omega⟩
      have hle : oD f ≤ oD (f + 1) := by
        rcases h.2.2.2.2.2 f (f + 1) (by omega) (by omega) with q | q
        · exact Int32.le_of_lt q
        · rw [q.1]; exact Int32.le_refl _
      rw [if_neg (nI_ge (by omega) (by omega)), nI_pred, m_or3 (by omega), ob, m_or3 (by omega), ob, (h.2.2.2.1 f (by omega)).2.2.2, (h.2.2.2.1 (f + 1) (by omega)).2.2.2, if_pos hle, nI_1]
      exact ih fu (f + 2) (by omega) (by omega) (by omega)
def agr (W : Nat → Int32) (tt : Nat → Int32) : Nat → Nat → Int32
  | 0, _ => 1
  | d + 1, i => if tt i = W i then agr W tt d (i + 1) else 0
theorem c_ag {n c : Nat} {M L cM cL T D A W : Nat → Int32} (hn : n ≤ 10) (hc : c ≤ 40) : ∀ (d fu i : Nat), d < fu → i + d = 6 →
    fX12_accountsAgree_L2 (nI n) (nI n) M (nI n) L (nI c) cM (nI c) cL (nI 6) T (nI 6) W (nI 6) D (nI 6) A fu (nI i) = some (agr W (fun q => tot n c q M L cM cL D A T) d i) := by
  intro d
  induction d with
  | zero =>
    intro fu i hfu hi
    obtain ⟨fu, rfl⟩ : ∃ q, fu = q + 1 := ⟨fu - 1, by omega⟩
    rw [fX12_accountsAgree_L2, if_pos (show (6 : Int32) ≤ nI i from nI_le (a := 6) (by omega) (by omega))]; rfl
  | succ d ih =>
    intro fu i hfu hi
    obtain ⟨fu, rfl⟩ : ∃ q, fu = q + 1 := ⟨fu - 1, by omega⟩
    rw [fX12_accountsAgree_L2, if_neg (show ¬ (6 : Int32) ≤ nI i from nI_ge (b := 6) (by omega) (by omega)), row_get (by omega) (Nat.le_refl _) (by omega), ob, p97, ch_id (by omega), c_pt hn hc (show i < 6 by omega), ob, nI_1, agr]
    by_cases g : tot n c i M L cM cL D A T = W i
    · rw [if_pos g.symm, if_pos g]; exact ih _ _ (by omega) (by omega)
    · rw [if_neg (fun e => g e.symm), if_neg g]
theorem m_ag {n s c m o : Nat} {N M L K cM cL T D A W oN oM oL oD x : Nat → Int32} (h1 : SR n s N M L K x) (h2 : OR m o oN oM oL oD x) (h3 : CR c cM cL x) (h4 : AR W D A T x) : ∀ (d fu i : Nat), d < fu → i + d = 6 →
    fX13_isConsistent_L7 0 x fu (nI i) = some (agr W (fun q => tot n c q M L cM cL D A T) d i, 0) := by
  intro d
  induction d with
  | zero =>
    intro fu i hfu hi
    obtain ⟨fu, rfl⟩ : ∃ q, fu = q + 1 := ⟨fu - 1, by omega⟩
    have hm := h2.1
    rw [fX13_isConsistent_L7, if_pos (show (6 : Int32) ≤ nI i from nI_le (a := 6) (by omega) (by omega))]
    exact m_cs h2 m FU 1 (FU_lt (by omega)) (by omega) (by omega)
  | succ d ih =>
    intro fu i hfu hi
    obtain ⟨fu, rfl⟩ : ∃ q, fu = q + 1 := ⟨fu - 1, by omega⟩
    rw [fX13_isConsistent_L7, if_neg (show ¬ (6 : Int32) ≤ nI i from nI_ge (b := 6) (by omega) (by omega)), m_pt h1 h3 h4 (show i < 6 by omega), ob, show (9 : Int32) = nI 9 from rfl, nI_add, gd_t (inR_n (by omega) (by omega)), nI_clamp (by omega), (h4 i (by omega)).1, nI_1, agr]
    by_cases g : tot n c i M L cM cL D A T = W i
    · rw [if_pos g, if_pos g]; exact ih _ _ (by omega) (by omega)
    · rw [if_neg g, if_neg g]
theorem agr01 {W tt : Nat → Int32} : ∀ (d i : Nat), agr W tt d i = 0 ∨ agr W tt d i = 1 := by
  intro d
  induction d with
  | zero => intro i; exact Or.inr rfl
  | succ d ih =>
    intro i
    rw [agr]
    by_cases g : tt i = W i
    · rw [if_pos g]; exact ih _
    · rw [if_neg g]; exact Or.inl rfl
theorem q_con {b : Nat} {w : WT} {x : Nat → Int32} (h : WR b w x) (lt : Nat → Int32) (pn : Int32) (pf : Nat → Int32) :
    ∃ (a : Int32) (lt' : Nat → Int32) (pn' : Int32) (pf' : Nat → Int32), fX12_isConsistent (wt_k w) (wt_sNn w) (wt_sMn w) (wt_sMf w) (wt_sLn w) (wt_sLf w) (wt_cMn w) (wt_cMf w) (wt_cLn w) (wt_cLf w) (wt_cTn w) (wt_cTf w) (wt_oNn w) (wt_oNf w) (wt_oMn w) (wt_oMf w) (wt_oLn w) (wt_oLf w) (wt_oDn w) (wt_oDf w) (wt_aWn w) (wt_aWf w) (wt_aDn w) (wt_aDf w) (wt_aLn w) (wt_aLf w) lt pn pf = some (a, lt', pn', pf') ∧ fX13_isConsistent x = some (a, 0) := by
  obtain ⟨n, s, m, o, c, k, l, r, ac, N, M, L, K, cM, cL, T, oN, oM, oL, oD, W, D, A, rfl, h1, h2, h3, h4, h5, h6⟩ := h
  unfold fX12_isConsistent fX13_isConsistent fX12_loadsAgree fX12_accountsAgree
  dsimp only [wt_k, wt_l, wt_r, wt_sx, wt_sNn, wt_sNf, wt_sMn, wt_sMf, wt_sLn, wt_sLf, wt_sKn, wt_sKf, wt_cMn, wt_cMf, wt_cLn, wt_cLf, wt_cTn, wt_cTf, wt_ox, wt_oNn, wt_oNf, wt_oMn, wt_oMf, wt_oLn, wt_oLf, wt_oDn, wt_oDf, wt_ac, wt_aWn, wt_aWf, wt_aDn, wt_aDf, wt_aLn, wt_aLf]
  obtain ⟨ol, o1, o2⟩ := O_ol h2
  obtain ⟨e5, e6, e7, e8, ⟨kf, k1, k2, rfl⟩, e9⟩ := h5
  have hn := h1.1
  obtain ⟨lt', pn', pf', r1⟩ := c_la h1 k2 h2.1 o1 (fun j hj => (h2.2.2.2.2.1 j hj).1) o2 n FU 0 lt pn pf (FU_lt (by omega)) (by omega)
  have r2 := c_ag (M := M) (L := L) (cM := cM) (cL := cL) (T := T) (D := D) (A := A) (W := W) hn h3.1 6 FU 0 (FU_lt (by omega)) rfl
  have r3 := m_ag h1 h2 h3 h4 6 FU 0 (FU_lt (by omega)) rfl
  replace r1 : fX12_loadsAgree_L2 (nI kf) (nI n) (nI n) M (nI n) L (nI m) (nI m) oM (nI m) oL FU 0 lt pn pf = some (1, lt', pn', pf') := r1
  replace r2 : fX12_accountsAgree_L2 (nI n) (nI n) M (nI n) L (nI c) cM (nI c) cL 6 T 6 W 6 D 6 A FU 0 = _ := r2
  replace r3 : fX13_isConsistent_L7 0 x FU 0 = _ := r3
  rw [r1, r2, r3, ob, ob, if_neg (show ¬ (1 : Int32) = 0 by decide), or_srt h2.1 h2.2.2.2.2.2, ob, if_neg (show ¬ (1 : Int32) = 0 by decide)]
  rcases agr01 (W := W) (tt := fun q => tot n c q M L cM cL D A T) 6 0 with g | g
  · rw [g, if_pos rfl]; exact ⟨_, _, _, _, rfl, rfl⟩
  · rw [g, if_neg (show ¬ (1 : Int32) = 0 by decide)]; exact ⟨_, _, _, _, rfl, rfl⟩
theorem F_isConsistent {t : Nat} {u : XT} {v : MT} (h : RLx t u v) (ht : t < 512) : ∃ (rx : Int32 × XT) (rm : Int32 × MT), gX12_isConsistent u = some rx ∧ gX13_isConsistent v = some rm ∧ rx.1 = rm.1 ∧ RLx (t + 1) rx.2 rm.2 := by
  have hm := RLx_mono h ht
  unfold gX12_isConsistent gX13_isConsistent
  obtain ⟨a, lt', pn', pf', e1, e2⟩ := q_con h.1 (xt_lt u) (xt_lpn u) (xt_lpf u)
  rw [e1, e2]
  exact ⟨_, _, rfl, rfl, rfl, hm⟩
