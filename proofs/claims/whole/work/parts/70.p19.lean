/-! pure layer: sums by parts, scraps by rank -/
theorem gS_fld {g : Nat → Int32} (c : Nat) (a : Int32) : fld (fun b j => b + g j) c 0 a = a + smQ g (lf (fun j => j) c) := fld_smQ (g := g) (h := fun j => j) a c
theorem fld_i0 {P : Nat → Prop} [DecidablePred P] {v : Nat → Int32} (d i : Nat) (a : Int32) : fld (fun b j => if P j then b + v j else b + 0) d i a = fld (fun b j => b + (if P j then v j else 0)) d i a := by
  refine fld_congr d i a fun j _ _ b => ?_
  by_cases h : P j
  · rw [if_pos h, if_pos h]
  · rw [if_neg h, if_neg h]
theorem m_p73 {c q : Nat} {x : Nat → Int32} (hc : c ≤ 40) (h4 : x 4 = nI c) : ∀ (d k i : Nat) (a : Int32), d < k → i + d = c →
    fX13_partsOf_L73 (nI q) x k a (nI i) = some (fld (fun b j => if x (121 + 2 * j) = nI q then b + x (122 + 2 * j) else b + 0) d i a) := by
  intro d
  induction d with
  | zero =>
    intro k i a hk hi
    obtain ⟨k, rfl⟩ : ∃ q, k = q + 1 := ⟨k - 1, by omega⟩
    rw [fX13_partsOf_L73, h4, if_pos (nI_le (by omega) (by omega))]; rfl
  | succ d ih =>
    intro k i a hk hi
    obtain ⟨k, rfl⟩ : ∃ q, k = q + 1 := ⟨k - 1, by omega⟩
    rw [fX13_partsOf_L73, h4, if_neg (nI_ge (by omega) (by omega)), m_sc0 (by omega), ob, m_sc1 (by omega), ob, nI_1, tl_fld]
    by_cases h : x (121 + 2 * i) = nI q
    · rw [if_pos h, if_pos h]; exact ih _ _ _ (by omega) (by omega)
    · rw [if_neg h, if_neg h]; exact ih _ _ _ (by omega) (by omega)
theorem m_p32 {n c q : Nat} {x : Nat → Int32} (hn : n ≤ 10) (h0 : x 0 = nI n) (hc : c ≤ 40) (h4 : x 4 = nI c) : ∀ (d k i : Nat) (a : Int32), d < k → i + d = n →
    fX13_partsOf_L32 (nI q) x k a (nI i) = some (fld (fun b j => if x (121 + 2 * j) = nI q then b + x (122 + 2 * j) else b + 0) c 0 (fld (fun b j => if x (34 + 4 * j) = nI q then b + x (35 + 4 * j) else b + 0) d i a)) := by
  intro d
  induction d with
  | zero =>
    intro k i a hk hi
    obtain ⟨k, rfl⟩ : ∃ q, k = q + 1 := ⟨k - 1, by omega⟩
    rw [fX13_partsOf_L32, h0, if_pos (nI_le (by omega) (by omega)), show (0 : Int32) = nI 0 from rfl, m_p73 hc h4 c FU 0 a (FU_lt (by omega)) (by omega)]; rfl
  | succ d ih =>
    intro k i a hk hi
    obtain ⟨k, rfl⟩ : ∃ q, k = q + 1 := ⟨k - 1, by omega⟩
    rw [fX13_partsOf_L32, h0, if_neg (nI_ge (by omega) (by omega)), m_sp1 (by omega), ob, m_sp2 (by omega), ob, nI_1, tl_fld]
    by_cases h : x (34 + 4 * i) = nI q
    · rw [if_pos h, if_pos h]; exact ih _ _ _ (by omega) (by omega)
    · rw [if_neg h, if_neg h]; exact ih _ _ _ (by omega) (by omega)
def tot (n c : Nat) (q : Nat) (M L cM cL D A T : Nat → Int32) : Int32 := (smQ (gq (nI q)) (lf (prc M L) n) + smQ (gq (nI q)) (lf (prc cM cL) c)) + ((D q + A q) + T q)
theorem c_pt {n c q : Nat} {M L cM cL D A T : Nat → Int32} (hn : n ≤ 10) (hc : c ≤ 40) (hq : q < 6) : fX11_sumOfParts (nI n) (nI n) M (nI n) L (nI c) cM (nI c) cL (nI 6) T (nI 6) D (nI 6) A (nI (97 + q)) = some (tot n c q M L cM cL D A T) := by
  unfold fX11_sumOfParts fX8_thrownOf
  rw [fX12_placeOf, ob, m97 hq, sp_sum hn, ob, sc_sum hc, ob, row_get hq (Nat.le_refl _) (by omega), ob, row_get hq (Nat.le_refl _) (by omega), ob, ob, row_get hq (Nat.le_refl _) (by omega), ob, ob, cs_sum, cs_sum, m97 hq]
  rfl
theorem m_pt {n c q s : Nat} {N M L K cM cL W D A T x : Nat → Int32} (h1 : SR n s N M L K x) (h3 : CR c cM cL x) (h4 : AR W D A T x) (hq : q < 6) : fX13_partsOf x (nI q) = some (tot n c q M L cM cL D A T) := by
  have hn := h1.1
  have hc := h3.1
  obtain ⟨k1, k2, k3, k4⟩ := h4 q hq
  unfold fX13_partsOf
  rw [show (15 : Int32) = nI 15 from rfl, show (21 : Int32) = nI 21 from rfl, show (27 : Int32) = nI 27 from rfl, nI_add, nI_add, nI_add, gd_t (inR_n (by omega) (by omega)), gd_t (inR_n (by omega) (by omega)), gd_t (inR_n (by omega) (by omega)), nI_clamp (by omega), nI_clamp (by omega), nI_clamp (by omega), k2, k3, k4]
  have r := m_p32 (q := q) hn h1.2.1 hc h3.2.1 n FU 0 ((D q + A q) + T q) (FU_lt (by omega)) (by omega)
  refine Eq.trans r (congrArg some ?_)
  rw [fld_i0, fld_i0]
  have e0 : fld (fun b j => b + (if x (34 + 4 * j) = nI q then x (35 + 4 * j) else 0)) n 0 (D q + A q + T q) = (D q + A q + T q) + smQ (gq (nI q)) (lf (prc M L) n) := by
    rw [← fld_smQ]
    refine fld_congr _ _ _ fun j _ hj b => ?_
    obtain ⟨y1, y2, y3, y4⟩ := h1.2.2.2.1 j (by omega)
    rw [y2, y3]; rfl
  rw [e0]
  have e1 : ∀ a : Int32, fld (fun b j => b + (if x (121 + 2 * j) = nI q then x (122 + 2 * j) else 0)) c 0 a = a + smQ (gq (nI q)) (lf (prx x) c) := fun a => fld_smQ (g := gq (nI q)) (h := prx x) a c
  rw [e1, ← smQ_perm h3.2.2.1]
  unfold tot
  rw [Int32.add_comm _ (D q + A q + T q), Int32.add_assoc]
theorem q_woundByParts {b : Nat} {w : WT} {x : Nat → Int32} (h : WR b w x) (p : Int32) : QS ["java/lang/IllegalArgumentException"] ((fX12_requireMaterial p).bind fun z1 => exC z1 (fun e5 => some (.error e5)) fun v3 => (hX11_sumOfParts w p).bind fun z6 => some (.ok z6)) (fX13_woundByParts x p) := by
  obtain ⟨n, s, m, o, c, k, l, r, ac, N, M, L, K, cM, cL, T, oN, oM, oL, oD, W, D, A, rfl, h1, h2, h3, h4, h5, h6⟩ := h
  unfold fX13_woundByParts
  rcases mat_cs p with ⟨e1, e2⟩ | ⟨q, hq, rfl, e1, e2⟩
  · rw [e1, e2]; exact QS_er rfl rfl kxI (by decide)
  · rw [e1, e2, ob, ob, exO, if_neg (show ¬ (1 : Int32) = 0 by decide), m97 hq, m_pt h1 h3 h4 hq]
    show QS _ ((fX11_sumOfParts (nI n) (nI n) M (nI n) L (nI c) cM (nI c) cL (nI 6) T (nI 6) D (nI 6) A (nI (97 + q))).bind _) _
    rw [c_pt h1.1 h3.1 hq]
    exact QS_ok rfl rfl
theorem m_so {x : Nat → Int32} {b0 : Nat} (hb : b0 < 100) : ∀ (d k i : Nat) (a : Int32), d < k → i + d = 6 → fX13_sumOf_L4 (nI b0) x k a (nI i) = some (fld (fun b j => b + x (b0 + j)) d i a) := by
  intro d
  induction d with
  | zero =>
    intro k i a hk hi
    obtain ⟨k, rfl⟩ : ∃ q, k = q + 1 := ⟨k - 1, by omega⟩
    rw [fX13_sumOf_L4, if_pos (show (6 : Int32) ≤ nI i from nI_le (a := 6) (by omega) (by omega))]; rfl
  | succ d ih =>
    intro k i a hk hi
    obtain ⟨k, rfl⟩ : ∃ q, k = q + 1 := ⟨k - 1, by omega⟩
    rw [fX13_sumOf_L4, if_neg (show ¬ (6 : Int32) ≤ nI i from nI_ge (b := 6) (by omega) (by omega)), nI_add, gd_t (inR_n (by omega) (by omega)), nI_clamp (by omega), nI_1, tl_fld]
    exact ih _ _ _ (by omega) (by omega)
theorem m_sD {W D A T x : Nat → Int32} (h : AR W D A T x) : fX13_sumOf x 15 = some (fld (fun b j => b + D j) 6 0 0) := by
  refine Eq.trans (m_so (b0 := 15) (by omega) 6 FU 0 0 (FU_lt (by omega)) rfl) (congrArg some (fld_congr _ _ _ fun j _ hj b => by rw [(h j (by omega)).2.1]))
theorem m_sA {W D A T x : Nat → Int32} (h : AR W D A T x) : fX13_sumOf x 21 = some (fld (fun b j => b + A j) 6 0 0) := by
  refine Eq.trans (m_so (b0 := 21) (by omega) 6 FU 0 0 (FU_lt (by omega)) rfl) (congrArg some (fld_congr _ _ _ fun j _ hj b => by rw [(h j (by omega)).2.2.1]))
theorem s6 {D : Nat → Int32} : fX7_sum 6 (nI 6) D = some (fld (fun b j => b + D j) 6 0 0) := row_sum (Nat.le_refl _) (by omega)
theorem q_totalDelivered {b : Nat} {w : WT} {x : Nat → Int32} (h : WR b w x) : ∃ a, fX12_totalDelivered (wt_aDn w) (wt_aDf w) = some a ∧ fX13_totalDelivered x = some (a, 0) := by
  obtain ⟨n, s, m, o, c, k, l, r, ac, N, M, L, K, cM, cL, T, oN, oM, oL, oD, W, D, A, rfl, h1, h2, h3, h4, h5, h6⟩ := h
  refine ⟨(fld (fun b j => b + D j) 6 0 0).toInt64, ?_, ?_⟩
  · show (fX7_sum 6 (nI 6) D).bind _ = _
    rw [s6, ob]
  · unfold fX13_totalDelivered
    rw [m_sD h4, ob]
theorem q_scraps {b : Nat} {w : WT} {x : Nat → Int32} (h : WR b w x) (p : Int32) : QS ["java/lang/IllegalArgumentException"] (fX12_scraps (wt_cMn w) (wt_cMf w) (wt_cLn w) p) (fX13_scraps x p) := by
  obtain ⟨n, s, m, o, c, k, l, r, ac, N, M, L, K, cM, cL, T, oN, oM, oL, oD, W, D, A, rfl, h1, h2, h3, h4, h5, h6⟩ := h
  show QS _ (fX12_scraps (nI c) cM (nI c) p) _
  unfold fX12_scraps fX13_scraps
  rcases mat_cs p with ⟨e1, e2⟩ | ⟨q, hq, rfl, e1, e2⟩
  · rw [e1, e2]; exact QS_er rfl rfl kxI (by decide)
  · rw [e1, e2, ob, ob, exO, if_neg (show ¬ (1 : Int32) = 0 by decide), sc_cnt h3.1, ob, cs_cnt (L := cL), m97 hq, smQ_perm h3.2.2.1]
    have L : ∀ (d k i : Nat) (a : Int32), d < k → i + d = c → fX13_scraps_L22 (nI (97 + q)) 0 x k a (nI i) = some (fld (fun b j => b + g1 (nI q) (prx x j)) d i a, 0) := by
      have hc := h3.1
      intro d
      induction d with
      | zero =>
        intro k i a hk hi
        obtain ⟨k, rfl⟩ : ∃ q, k = q + 1 := ⟨k - 1, by omega⟩
        rw [fX13_scraps_L22, h3.2.1, if_pos (nI_le (by omega) (by omega))]; rfl
      | succ d ih =>
        intro k i a hk hi
        obtain ⟨k, rfl⟩ : ∃ q, k = q + 1 := ⟨k - 1, by omega⟩
        rw [fX13_scraps_L22, h3.2.1, if_neg (nI_ge (by omega) (by omega)), m_sc0 (by omega), ob, m97 hq, nI_1, tl_fld]
        have eg : g1 (nI q) (prx x i) = if x (121 + 2 * i) = nI q then 1 else 0 := rfl
        rw [eg]
        by_cases g : x (121 + 2 * i) = nI q
        · rw [if_pos g, if_pos g]; exact ih _ _ _ (by omega) (by omega)
        · rw [if_neg g, if_neg g]; exact ih _ _ _ (by omega) (by omega)
    have r := L c FU 0 0 (FU_lt (by have := h3.1; omega)) (by omega)
    rw [fld_smQ, Int32.zero_add] at r
    exact QS_ok rfl r
