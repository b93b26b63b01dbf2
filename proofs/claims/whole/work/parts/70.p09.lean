/-! pure layer: retire, clear, cancel, settings -/
theorem ch_id {a : Nat} (h : a < 65536) : ((nI a).toUInt32 % 65536).toInt32 = nI a := by
  rw [pk_char, pk_tn (by omega), Nat.mod_eq_of_lt h]
theorem m_lv1 {x : Nat → Int32} {c : Nat} {q v : Int32} (hc : c < 40) (h4 : x 4 = nI c) : fX13_leavesScrap x q v = some (upd (upd (upd x (121 + 2 * c) q) (122 + 2 * c) v) 4 (nI (c + 1))) := by
  have e0 : (121 : Int32) + 2 * nI c = nI (121 + 2 * c) := by rw [show (121 : Int32) = nI 121 from rfl, show (2 : Int32) = nI 2 from rfl, pk_mul, nI_add]
  have e5 : ¬ nI c = (40 : Int32) := fun e => by have := (nI_eq (b := 40) (by omega) (by omega)).mp e; omega
  unfold fX13_leavesScrap
  simp only [h4, e0, nI_clamp (show 121 + 2 * c < 2 ^ 31 by omega)]
  rw [pk_un (show 4 ≠ 121 + 2 * c by omega), h4, e0, nI_1]
  have e1 : nI (121 + 2 * c + 1) = nI (122 + 2 * c) := by congr 1; omega
  rw [e1, nI_clamp (show 122 + 2 * c < 2 ^ 31 by omega), if_neg e5, gd_t (inR_n (by omega) (by omega)), gd_t (inR_n (by omega) (by omega)), pk_un (show 4 ≠ 122 + 2 * c by omega), pk_un (show 4 ≠ 121 + 2 * c by omega), h4, nI_1]
theorem m_lv2 {x : Nat → Int32} {q : Nat} {v : Int32} (hq : q < 6) (h4 : x 4 = nI 40) : fX13_leavesScrap x (nI q) v = some (upd x (27 + q) (x (27 + q) + v)) := by
  unfold fX13_leavesScrap
  rw [h4, if_pos (show nI 40 = 40 from rfl), show (27 : Int32) = nI 27 from rfl, nI_add, gd_t (inR_n (by omega) (by omega)), gd_t (inR_n (by omega) (by omega)), nI_clamp (by omega)]
theorem AR_T {W D A T x x' : Nat → Int32} {q : Nat} {l : Int32} (h : AR W D A T x) (hq : q < 6) (hc : x' (27 + q) = x (27 + q) + l) (hr : ∀ j, 9 ≤ j → j < 33 → j ≠ 27 + q → x' j = x j) : AR W D A (upd T q (T q + l)) x' := by
  intro j hj
  obtain ⟨k1, k2, k3, k4⟩ := h j hj
  refine ⟨(hr _ (by omega) (by omega) (by omega)).trans k1, (hr _ (by omega) (by omega) (by omega)).trans k2, (hr _ (by omega) (by omega) (by omega)).trans k3, ?_⟩
  rw [upd_e]
  by_cases e : j = q
  · subst e; rw [if_pos rfl, hc, k4]
  · rw [if_neg e, hr _ (by omega) (by omega) (by omega), k4]
theorem S_leave {c q a : Nat} {M L T W D A x : Nat → Int32} (h : CR c M L x) (hA : AR W D A T x) (hq : q < 6) (ha : 1 ≤ a) (ha2 : a ≤ 999) :
    ∃ c' M' L' T' x', fX8_keepOrThrow (nI c) M (nI c) L 6 T (nI (97 + q)) (nI a) = some (nI c', M', nI c', L', T') ∧ fX13_leavesScrap x (nI q) (nI a) = some x' ∧ CR c' M' L' x' ∧ AR W D A T' x' ∧ (∀ j, j ≠ 4 → j < 121 → j < 27 ∨ 33 ≤ j → x' j = x j) := by
  have hc := h.1
  by_cases e : c = 40
  · subst e
    refine ⟨40, M, L, _, _, sc_th hq, m_lv2 hq h.2.1, CR_fr h ?_, AR_T hA hq pk_us (fun j _ _ j3 => pk_un j3), fun j _ _ j3 => pk_un (by omega)⟩
    intro j hj; exact pk_un (by omega)
  · refine ⟨c + 1, _, _, T, _, sc_kp (by omega), m_lv1 (by omega) h.2.1, CR_ins h (by omega) hq ha ha2 rfl pk_us ?_ ?_ ?_, AR_fr hA ?_, ?_⟩
    · rw [pk_un (by omega), pk_un (by omega), pk_us]
    · rw [pk_un (by omega), pk_us]
    · intro j j1 j2; rw [pk_un (by omega), pk_un (by omega), pk_un (by omega)]
    · intro j j1; rw [pk_un (by omega), pk_un (by omega), pk_un (by omega)]
    · intro j j1 j2 j3; rw [pk_un j1, pk_un (by omega), pk_un (by omega)]
theorem S_rmS {n s i : Nat} {N M L K x x1 : Nat → Int32} (h : SR n s N M L K x) (hi : i < n) (e0 : x1 0 = x 0) (e1 : x1 1 = x 1) (er : ∀ j, 33 ≤ j → j < 73 → j ≠ 35 + 4 * i → j ≠ 36 + 4 * i → x1 j = x j) :
    ∃ x', fX13_removesSpool x1 (nI i) = some x' ∧ SR (n - 1) s (del N n i) (del M n i) (del L n i) (del K n i) x' ∧ (∀ j, 1 ≤ j → j < 33 ∨ 73 ≤ j → x' j = x1 j) := by
  have hn := h.1
  refine ⟨_, m_rs hn (e0.trans h.2.1) hi, SR_del h hi pk_us ?_ ?_, ?_⟩
  · rw [pk_un (by decide), clz_0 (by omega) (by omega), e1]
  · intro j c hj hc
    rw [pk_un (by omega)]
    unfold clz sh
    by_cases f : i ≤ j
    · rw [if_pos (show 33 + 4 * i ≤ 33 + 4 * j + c ∧ 33 + 4 * j + c + 4 < 33 + 4 * n by omega), if_pos f, er _ (by omega) (by omega) (by omega) (by omega)]; congr 1; omega
    · rw [if_neg (by omega), if_neg (by omega), if_neg f, er _ (by omega) (by omega) (by omega) (by omega)]
  · intro j j1 j2; rw [pk_un (by omega), clz_0 (by omega) (by omega)]
theorem S_rmO {n s i : Nat} {N M L D x : Nat → Int32} (h : OR n s N M L D x) (hi : i < n) :
    ∃ x', fX13_removesOrder x (nI i) = some x' ∧ OR (n - 1) s (del N n i) (del M n i) (del L n i) (del D n i) x' ∧ (∀ j, j ≠ 2 → j < 73 ∨ 121 ≤ j → x' j = x j) := by
  have hn := h.1
  refine ⟨_, m_ro hn h.2.1 hi, OR_del h hi pk_us ?_ ?_, ?_⟩
  · rw [pk_un (by decide), clz_0 (by omega) (by omega)]
  · intro j c hj hc
    rw [pk_un (by omega)]
    unfold clz sh
    by_cases f : i ≤ j
    · rw [if_pos (show 73 + 4 * i ≤ 73 + 4 * j + c ∧ 73 + 4 * j + c + 4 < 73 + 4 * n by omega), if_pos f]; congr 1; omega
    · rw [if_neg (by omega), if_neg (by omega), if_neg f]
  · intro j j1 j2; rw [pk_un j1, clz_0 (by omega) (by omega)]
theorem pl_S {n s : Nat} {N M L K x : Nat → Int32} (h : SR n s N M L K x) (p : Int32) : fX13_spoolPlace x p = some (oI (fnd (fun j => N j = p) n 0)) := by
  rw [m_spl h.1 h.2.1, fnd_congr (P := fun j => x (33 + 4 * j) = p) (Q := fun j => N j = p) n 0 (fun j _ hj => by rw [(h.2.2.2.1 j (by omega)).1])]
theorem pl_O {n s : Nat} {N M L D x : Nat → Int32} (h : OR n s N M L D x) (p : Int32) : fX13_orderPlace x p = some (oI (fnd (fun j => N j = p) n 0)) := by
  rw [m_opl h.1 h.2.1, fnd_congr (P := fun j => x (73 + 4 * j) = p) (Q := fun j => N j = p) n 0 (fun j _ hj => by rw [(h.2.2.2.1 j (by omega)).1])]
theorem kxN {Es : List String} : kx ("java/util/NoSuchElementException" :: Es) (.error "java/util/NoSuchElementException" : Except String Int32) = some 1 := by
  unfold kx; exact if_pos rfl
theorem oI_s {i : Nat} : oI (some i) = nI i := rfl
theorem ex_S {n : Nat} {N : Nat → Int32} {p : Int32} (hn : n ≤ 10) : fX11_existingSpool (nI n) N p = some (match fnd (fun j => N j = p) n 0 with | none => .error "java/util/NoSuchElementException" | some i => .ok (nI i)) := by
  unfold fX11_existingSpool fX9_indexOf
  rw [row_ix hn (by omega), ob, ob]
  cases e : fnd (fun j => N j = p) n 0 with
  | none => rw [if_pos (show oI none = -1 from rfl)]
  | some i => rw [if_neg (oI_m1 (by have := (fnd_some _ _ _ e).2.1; omega))]; rfl
theorem ex_O {n : Nat} {N : Nat → Int32} {p : Int32} (hn : n ≤ 12) : fX11_openOrder (nI n) N p = some (match fnd (fun j => N j = p) n 0 with | none => .error "java/util/NoSuchElementException" | some i => .ok (nI i)) := by
  unfold fX11_openOrder fX5_positionOf
  rw [row_ix hn (by omega), ob, ob]
  cases e : fnd (fun j => N j = p) n 0 with
  | none => rw [if_pos (show oI none = -1 from rfl)]
  | some i => rw [if_neg (oI_m1 (by have := (fnd_some _ _ _ e).2.1; omega))]; rfl
theorem S_ret {b : Nat} {w : WT} {x : Nat → Int32} (h : WR b w x) (p : Int32) :
    SIM b w ["java/util/NoSuchElementException"] (hX11_retireSpool w p) (fX13_notRetire x p) (fX13_retires x p) := by
  obtain ⟨n, s, m, o, c, k, l, r, ac, N, M, L, K, cM, cL, T, oN, oM, oL, oD, W, D, A, rfl, h1, h2, h3, h4, h5, h6, h7, h8, h9, h10⟩ := h
  have hn := h1.1
  unfold hX11_retireSpool
  dsimp only [wt_k, wt_l, wt_r, wt_sx, wt_sNn, wt_sNf, wt_sMn, wt_sMf, wt_sLn, wt_sLf, wt_sKn, wt_sKf, wt_cMn, wt_cMf, wt_cLn, wt_cLf, wt_cTn, wt_cTf, wt_ox, wt_oNn, wt_oNf, wt_oMn, wt_oMf, wt_oLn, wt_oLf, wt_oDn, wt_oDf, wt_ac, wt_aWn, wt_aWf, wt_aDn, wt_aDf, wt_aLn, wt_aLf]
  unfold fX11_retireSpool fX13_notRetire fX13_retires
  rw [ex_S hn, pl_S h1, ob, ob, ob]
  cases e : fnd (fun j => N j = p) n 0 with
  | none => exact Or.inl ⟨_, 1, rfl, rfl, by decide, kxN⟩
  | some i =>
    obtain ⟨_, hi, _, _⟩ := fnd_some _ _ _ e
    rw [Nat.zero_add] at hi
    obtain ⟨y1, y2, y3, y4⟩ := h1.2.2.2.1 i hi
    obtain ⟨⟨q, hq, u1⟩, ⟨a, kk, u2, u3, u4, u5⟩, _⟩ := h1.2.2.2.2.1 i hi
    rw [oI_s]
    dsimp only
    rw [exO, if_pos (nI_pos' (by omega)), fX9_lengthAt, row_get hi hn (by omega), ob, ob, fX9_materialAt, row_get hi hn (by omega), ob, ob, m_sp2 (by omega), ob, m_sp1 (by omega), ob, y2, y3, u1, u4, ch_id (by omega), m97 hq]
    obtain ⟨c', M', L', T', x1, r1, r2, r3, r4, r5⟩ := S_leave h3 h4 hq u2 (by omega)
    obtain ⟨x2, s1, s2, s3⟩ := S_rmS (x1 := x1) h1 hi (r5 0 (by omega) (by omega) (by omega)) (r5 1 (by omega) (by omega) (by omega)) (fun j j1 j2 _ _ => r5 j (by omega) (by omega) (by omega))
    rw [r1, r2, ob, ob, sp_del hn hi, ob, s1, ob]
    refine Or.inr ⟨_, _, x2, rfl, rfl, rfl, n - 1, s, m, o, c', k, l, r, ac, _, _, _, _, M', L', T', oN, oM, oL, oD, W, D, A, rfl, s2, OR_fr h2 ?_, CR_fr r3 ?_, AR_fr r4 ?_, SE_fr h5 ?_, h6, h7, h8, h9, h10⟩
    · intro j hj; rw [s3 j (by omega) (by omega), r5 j (by omega) (by omega) (by omega)]
    · intro j hj; rw [s3 j (by omega) (by omega)]
    · intro j hj; rw [s3 j (by omega) (by omega)]
    · intro j hj; rw [s3 j (by omega) (by omega), r5 j (by omega) (by omega) (by omega)]
theorem S_clr {b : Nat} {w : WT} {x : Nat → Int32} (h : WR b w x) (p : Int32) :
    SIM b w ["java/lang/IllegalArgumentException"] (hX11_clearScraps w p) (fX13_notClear p) (fX13_clears x (p - 97)) := by
  obtain ⟨n, s, m, o, c, k, l, r, ac, N, M, L, K, cM, cL, T, oN, oM, oL, oD, W, D, A, rfl, h1, h2, h3, h4, h5, h6, h7, h8, h9, h10⟩ := h
  unfold hX11_clearScraps
  dsimp only [wt_k, wt_l, wt_r, wt_sx, wt_sNn, wt_sNf, wt_sMn, wt_sMf, wt_sLn, wt_sLf, wt_sKn, wt_sKf, wt_cMn, wt_cMf, wt_cLn, wt_cLf, wt_cTn, wt_cTf, wt_ox, wt_oNn, wt_oNf, wt_oMn, wt_oMf, wt_oLn, wt_oLf, wt_oDn, wt_oDf, wt_ac, wt_aWn, wt_aWf, wt_aDn, wt_aDf, wt_aLn, wt_aLf]
  unfold fX11_clearScraps fX13_notClear
  rcases mat_cs p with ⟨e1, e2⟩ | ⟨q, hq, rfl, e1, e2⟩
  · rw [e1, e2, ob, ob]
    exact Or.inl ⟨_, 1, rfl, rfl, by decide, kxI⟩
  · rw [e1, e2, ob, ob, exO, m97 hq]
    obtain ⟨S, c', M', L', x', r1, r2, r3, r4, r5⟩ := S_thr hq h3 h4
    rw [r1, r2, ob]
    refine Or.inr ⟨_, _, x', rfl, rfl, rfl, n, s, m, o, c', k, l, r, ac, N, M, L, K, M', L', _, oN, oM, oL, oD, W, D, A, rfl, SR_fr h1 ?_, OR_fr h2 ?_, r3, r4, SE_fr h5 ?_, h6, h7, h8, h9, h10⟩
    · intro j hj; exact r5 j (by omega) (by omega) (by omega)
    · intro j hj; exact r5 j (by omega) (by omega) (by omega)
    · intro j hj; exact r5 j (by omega) (by omega) (by omega)
theorem BR_mono {f f' : Nat} {D A : Nat → Int32} (h : BR f D A) (hf : f ≤ f') : BR f' D A := by
  obtain ⟨d, a, h1, h2, h3⟩ := h
  exact ⟨d, a, h1, by omega, by omega⟩
theorem S_can {b : Nat} {w : WT} {x : Nat → Int32} (h : WR b w x) (p : Int32) :
    SIM b w ["java/util/NoSuchElementException"] (hX11_cancelOrder w p) (fX13_notCancel x p) (fX13_cancels x p) := by
  obtain ⟨n, s, m, o, c, k, l, r, ac, N, M, L, K, cM, cL, T, oN, oM, oL, oD, W, D, A, rfl, h1, h2, h3, h4, h5, h6, h7, h8, h9, h10⟩ := h
  have hn := h2.1
  unfold hX11_cancelOrder
  dsimp only [wt_k, wt_l, wt_r, wt_sx, wt_sNn, wt_sNf, wt_sMn, wt_sMf, wt_sLn, wt_sLf, wt_sKn, wt_sKf, wt_cMn, wt_cMf, wt_cLn, wt_cLf, wt_cTn, wt_cTf, wt_ox, wt_oNn, wt_oNf, wt_oMn, wt_oMf, wt_oLn, wt_oLf, wt_oDn, wt_oDf, wt_ac, wt_aWn, wt_aWf, wt_aDn, wt_aDf, wt_aLn, wt_aLf]
  unfold fX11_cancelOrder fX13_notCancel fX13_cancels
  rw [ex_O hn, pl_O h2, ob, ob, ob]
  cases e : fnd (fun j => oN j = p) m 0 with
  | none => exact Or.inl ⟨_, 1, rfl, rfl, by decide, kxN⟩
  | some i =>
    obtain ⟨_, hi, _, _⟩ := fnd_some _ _ _ e
    rw [Nat.zero_add] at hi
    obtain ⟨x2, s1, s2, s3⟩ := S_rmO h2 hi
    rw [oI_s]
    dsimp only
    rw [exO, if_pos (nI_pos' (by omega)), or_del hn hi, ob, s1, ob]
    refine Or.inr ⟨_, _, x2, rfl, rfl, rfl, n, s, m - 1, o, c, k, l, r, ac, N, M, L, K, cM, cL, T, _, _, _, _, W, D, A, rfl, SR_fr h1 ?_, s2, CR_fr h3 ?_, AR_fr h4 ?_, SE_fr h5 ?_, h6, h7, by omega, BR_mono h9 (by omega), h10⟩
    · intro j hj; exact s3 j (by omega) (by omega)
    · intro j hj; exact s3 j (by omega) (by omega)
    · intro j hj; exact s3 j (by omega) (by omega)
    · intro j hj; exact s3 j (by omega) (by omega)
theorem WR_E {b : Nat} {x x' : Nat → Int32} {n s m o c : Nat} {k l r ac k' l' r' : Int32} {N M L K cM cL T oN oM oL oD W D A : Nat → Int32}
    (h1 : SR n s N M L K x) (h2 : OR m o oN oM oL oD x) (h3 : CR c cM cL x) (h4 : AR W D A T x) (h6 : s ≤ b) (h7 : o ≤ b) (h8 : m ≤ o) (h9 : BR (o - m) D A) (h10 : b < 100000)
    (e : ∀ j, j < 5 ∨ 9 ≤ j → x' j = x j) (h5 : SE k' l' r' ac x') :
    WR b (k', l', r', nI s, nI n, N, nI n, M, nI n, L, nI n, K, nI c, cM, nI c, cL, 6, T, nI o, nI m, oN, nI m, oM, nI m, oL, nI m, oD, ac, 6, W, 6, D, 6, A) x' :=
  ⟨n, s, m, o, c, k', l', r', ac, N, M, L, K, cM, cL, T, oN, oM, oL, oD, W, D, A, rfl, SR_fr h1 fun j hj => e j (by omega), OR_fr h2 fun j hj => e j (by omega), CR_fr h3 fun j hj => e j (by omega), AR_fr h4 fun j hj => e j (by omega), h5, h6, h7, h8, h9, h10⟩
theorem S_krf {b : Nat} {w : WT} {x : Nat → Int32} (h : WR b w x) (p : Int32) :
    SIM b w ["java/lang/IllegalArgumentException"] (hX11_changeKerf w p) (fX13_notKerf p) (fX13_sets x 5 p) := by
  obtain ⟨n, s, m, o, c, k, l, r, ac, N, M, L, K, cM, cL, T, oN, oM, oL, oD, W, D, A, rfl, h1, h2, h3, h4, h5, h6, h7, h8, h9, h10⟩ := h
  unfold hX11_changeKerf fX11_changeKerf fX13_notKerf
  rw [btw, ob]
  by_cases g1 : p < 0
  · rw [if_pos g1, if_pos g1]
    exact Or.inl ⟨_, 1, rfl, rfl, by decide, kxI⟩
  · rw [if_neg g1, if_neg g1]
    by_cases g2 : 5 < p
    · rw [if_neg (Int32.not_le.mpr g2), if_pos g2]
      exact Or.inl ⟨_, 1, rfl, rfl, by decide, kxI⟩
    · rw [if_pos (Int32.not_lt.mp g2), if_neg g2]
      obtain ⟨e1, e2, e3, e4, e5, e6, e7⟩ := h5
      refine Or.inr ⟨k, _, upd x 5 p, rfl, rfl, ?_, WR_E (k := k) (l := l) (r := r) h1 h2 h3 h4 h6 h7 h8 h9 h10 ?_ ⟨pk_us, ?_, ?_, ?_, ?_, e6, e7⟩⟩
      · rw [← e1]; rfl
      · intro j hj; exact pk_un (by omega)
      · rw [pk_un (by decide)]; exact e2
      · rw [pk_un (by decide)]; exact e3
      · rw [pk_un (by decide)]; exact e4
      · exact in_btw (lo := 0) (hi := 5) (by omega) (by omega) g1 g2
theorem S_lim {b : Nat} {w : WT} {x : Nat → Int32} (h : WR b w x) (p : Int32) :
    SIM b w ["java/lang/IllegalArgumentException"] (hX11_changeScrapLimit w p) (fX13_notLimit p) (fX13_sets x 6 p) := by
  obtain ⟨n, s, m, o, c, k, l, r, ac, N, M, L, K, cM, cL, T, oN, oM, oL, oD, W, D, A, rfl, h1, h2, h3, h4, h5, h6, h7, h8, h9, h10⟩ := h
  unfold hX11_changeScrapLimit fX11_changeScrapLimit fX13_notLimit
  rw [btw, ob]
  by_cases g1 : p < 1
  · rw [if_pos g1, if_pos g1]
    exact Or.inl ⟨_, 1, rfl, rfl, by decide, kxI⟩
  · rw [if_neg g1, if_neg g1]
    by_cases g2 : 50 < p
    · rw [if_neg (Int32.not_le.mpr g2), if_pos g2]
      exact Or.inl ⟨_, 1, rfl, rfl, by decide, kxI⟩
    · rw [if_pos (Int32.not_lt.mp g2), if_neg g2]
      obtain ⟨e1, e2, e3, e4, e5, e6, e7⟩ := h5
      refine Or.inr ⟨l, _, upd x 6 p, rfl, rfl, ?_, WR_E (k := k) (l := l) (r := r) h1 h2 h3 h4 h6 h7 h8 h9 h10 ?_ ⟨?_, pk_us, ?_, ?_, e5, ?_, e7⟩⟩
      · rw [← e2]; rfl
      · intro j hj; exact pk_un (by omega)
      · rw [pk_un (by decide)]; exact e1
      · rw [pk_un (by decide)]; exact e3
      · rw [pk_un (by decide)]; exact e4
      · exact in_btw (lo := 1) (hi := 50) (by omega) (by omega) g1 g2
theorem isC_r {p : Int32} (h : p = 98 ∨ p = 119 ∨ p = 102) : isC p = true := by rcases h with rfl | rfl | rfl <;> decide
theorem S_rul {b : Nat} {w : WT} {x : Nat → Int32} (h : WR b w x) (p : Int32) :
    SIM b w ["java/lang/IllegalArgumentException"] (hX11_changeRule w p) (fX13_notRule p) (fX13_sets x 7 p) := by
  obtain ⟨n, s, m, o, c, k, l, r, ac, N, M, L, K, cM, cL, T, oN, oM, oL, oD, W, D, A, rfl, h1, h2, h3, h4, h5, h6, h7, h8, h9, h10⟩ := h
  obtain ⟨e1, e2, e3, e4, e5, e6, e7⟩ := h5
  have ok : p = 98 ∨ p = 119 ∨ p = 102 → fX13_notRule p = some 0 → fX12_isRule p = some 1 → SIM b (k, l, r, nI s, nI n, N, nI n, M, nI n, L, nI n, K, nI c, cM, nI c, cL, 6, T, nI o, nI m, oN, nI m, oM, nI m, oL, nI m, oD, ac, 6, W, 6, D, 6, A) ["java/lang/IllegalArgumentException"] (hX11_changeRule (k, l, r, nI s, nI n, N, nI n, M, nI n, L, nI n, K, nI c, cM, nI c, cL, 6, T, nI o, nI m, oN, nI m, oM, nI m, oL, nI m, oD, ac, 6, W, 6, D, 6, A) p) (fX13_notRule p) (fX13_sets x 7 p) := by
    intro q1 q2 q3
    unfold hX11_changeRule fX11_changeRule
    rw [q3, ob, if_neg (show ¬ (1 : Int32) = 0 by decide), gd_t (isC_r q1), gd_t (isC_r e7)]
    refine Or.inr ⟨r, _, upd x 7 p, rfl, q2, ?_, WR_E (k := k) (l := l) (r := r) h1 h2 h3 h4 h6 h7 h8 h9 h10 ?_ ⟨?_, ?_, pk_us, ?_, e5, e6, q1⟩⟩
    · rw [← e3]; rfl
    · intro j hj; exact pk_un (by omega)
    · rw [pk_un (by decide)]; exact e1
    · rw [pk_un (by decide)]; exact e2
    · rw [pk_un (by decide)]; exact e4
  by_cases g1 : p = 98
  · exact ok (Or.inl g1) (by unfold fX13_notRule; rw [if_pos g1]) (by unfold fX12_isRule; rw [if_pos g1])
  · by_cases g2 : p = 119
    · exact ok (Or.inr (Or.inl g2)) (by unfold fX13_notRule; rw [if_neg g1, if_pos g2]) (by unfold fX12_isRule; rw [if_neg g1, if_pos g2])
    · by_cases g3 : p = 102
      · exact ok (Or.inr (Or.inr g3)) (by unfold fX13_notRule; rw [if_neg g1, if_neg g2, if_pos g3]) (by unfold fX12_isRule; rw [if_neg g1, if_neg g2, if_pos g3])
      · unfold hX11_changeRule fX11_changeRule fX13_notRule fX12_isRule
        rw [if_neg g1, if_neg g1, if_neg g2, if_neg g2, if_neg g3, if_neg g3]
        exact Or.inl ⟨_, 1, rfl, rfl, by decide, kxI⟩
