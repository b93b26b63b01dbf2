/-! pure layer: writeSpool, writeOrders -/
theorem dgn4 (n : Nat) : dgn n ≤ 4 := by unfold dgn; split <;> (try split) <;> (try split) <;> omega
theorem dgn3 {n : Nat} (h : n < 1000) : dgn n ≤ 3 := by unfold dgn; split <;> (try split) <;> (try split) <;> omega
theorem dgn2 {n : Nat} (h : n < 100) : dgn n ≤ 2 := by unfold dgn; split <;> (try split) <;> (try split) <;> omega
theorem ln_set {um un : Int32} {l q : Nat} {v ln : Nat → Int32} {ll : Int32} (h : LR un q v ll ln) (hl : un = nI l) (hl2 : l < 1000) : ∃ um' q' v', fset0 um un q v = some (um', q', v') ∧ TS 0 q' v' ln := by
  obtain ⟨l', p1, p2, p3, p4, p5, p6, p7⟩ := h
  obtain ⟨q', v', e1, e2, e3, e4, e5⟩ := fens_ok (l := 0) (r := 0) (q := q) (v := v) ⟨p4, Nat.zero_le _, p6⟩ (by omega) (by omega)
  refine ⟨if nI l ≤ 0 then um else 1, q', v', ?_, ⟨e2, Nat.zero_le _, e4⟩, fun j hj => absurd hj (Nat.not_lt_zero _)⟩
  unfold fset0
  rw [hl, gd_t (decide_eq_true (nI_pos (by omega))), show fens q v 0 = _ from e1, ob]
theorem LR_of {l q : Nat} {v ln : Nat → Int32} (h : TS l q v ln) (hl : l ≤ 144) : LR (nI l) q v (nI l) ln := ⟨l, hl, rfl, rfl, h.1.1, h.1.2.1, h.1.2.2, h.2⟩
theorem q_ws {b : Nat} {w : WT} {x : Nat → Int32} (h : WR b w x) (hb : b < 6200) (p : Int32) {um un : Int32} {q : Nat} {v ln : Nat → Int32} {ll : Int32} (hl : LR un q v ll ln) :
    (fX12_writeSpool (wt_sNn w) (wt_sNf w) (wt_sMn w) (wt_sMf w) (wt_sLn w) (wt_sLf w) (wt_sKn w) (wt_sKf w) um un q v p = some (.error "java/util/NoSuchElementException", um, un, q, v) ∧ fX13_writeSpool ll x ln p = some (0, 1, ll, ln)) ∨
    ∃ (l' q' : Nat) (um' : Int32) (v' ln' : Nat → Int32), fX12_writeSpool (wt_sNn w) (wt_sNf w) (wt_sMn w) (wt_sMf w) (wt_sLn w) (wt_sLf w) (wt_sKn w) (wt_sKf w) um un q v p = some (.ok (nI l'), um', nI l', q', v') ∧ fX13_writeSpool ll x ln p = some (nI l', 0, nI l', ln') ∧ LR (nI l') q' v' (nI l') ln' := by
  obtain ⟨n, s, m, o, c, k, l, r, ac, N, M, L, K, cM, cL, T, oN, oM, oL, oD, W, D, A, rfl, h1, h2, h3, h4, h5, h6⟩ := h
  have hn := h1.1
  have hlr := hl
  obtain ⟨l0, p1, p2, p3, p4, p5, p6, p7⟩ := hl
  obtain ⟨um', q1, v1, s1, s2⟩ := ln_set (um := um) hlr p2 (by omega)
  have hq : q ≤ 290 := by omega
  unfold fX12_writeSpool fX13_writeSpool
  dsimp only [wt_sNn, wt_sNf, wt_sMn, wt_sMf, wt_sLn, wt_sLf, wt_sKn, wt_sKf]
  rw [ex_S hn, pl_S h1, ob, ob]
  cases ef : fnd (fun j => N j = p) n 0 with
  | none => exact Or.inl ⟨rfl, rfl⟩
  | some i =>
    obtain ⟨_, hi, hNi, _⟩ := fnd_some _ _ _ ef
    rw [Nat.zero_add] at hi
    obtain ⟨y1, y2, y3, y4⟩ := h1.2.2.2.1 i hi
    obtain ⟨⟨mq, hmq, u1⟩, ⟨a, kk, u2, u3, u4, u5⟩, ⟨nn, w1, w2⟩⟩ := h1.2.2.2.2.1 i hi
    have hp : p = nI nn := hNi.symm.trans w2
    obtain ⟨q2, v2, ln2, a1, a2, a3⟩ := w_I (n := nn) s2 (by omega) (by omega)
    have d1 := dgn4 nn
    obtain ⟨q3, v3, ln3, b1, b2, b3⟩ := w_C (a := 97 + mq) a3 (by omega) (by omega)
    obtain ⟨q4, v4, ln4, c1, c2, c3⟩ := w_C (a := 58) b3 (by omega) (by omega)
    obtain ⟨q5, v5, ln5, d2, d3, d4⟩ := w_I (n := a) c3 (by omega) (by omega)
    have d5 := dgn4 a
    obtain ⟨q6, v6, ln6, e1, e2, e3⟩ := w_C (a := 47) d4 (by omega) (by omega)
    obtain ⟨q7, v7, ln7, f1, f2, f3⟩ := w_I (n := kk) e3 (by omega) (by omega)
    have d6 := dgn4 kk
    refine Or.inr ⟨_, q7, um', v7, ln7, ?_, ?_, LR_of f3 (by omega)⟩
    · dsimp only
      rw [exO, gd_t (decide_eq_true hq), s1, ob, hp, show fapI 0 q1 v1 (nI nn) = _ from a1, ob, fX9_materialAt, row_get hi hn (by omega), ob, ob, u1, ch_id (by omega), b1, ob, show fapC (nI (0 + dgn nn + 1)) q3 v3 58 = _ from c1, ob, fX9_lengthAt, row_get hi hn (by omega), ob, ob, u4, d2, ob, show fapC _ q5 v5 47 = _ from e1, ob, fX9_cutCountAt, row_get hi hn (by omega), ob, ob, u5, f1, ob]
      rfl
    · rw [oI_s, if_pos (nI_pos' (by omega)), hp, show fX13_writesNumber 0 ln (nI nn) = _ from a2, ob, m_sp1 (by omega), ob, y2, u1, m97 hmq, p97, b2, ob, show fX13_writes (nI (0 + dgn nn + 1)) ln3 58 = _ from c2, ob, m_sp2 (by omega), ob, y3, u4, d3, ob, show fX13_writes _ ln5 47 = _ from e2, ob, m_sp3 (by omega), ob, y4, u5, f2, ob]
theorem F_writeSpool {t : Nat} {u : XT} {v : MT} (p1 : Int32) (h : RLx t u v) (ht : t < 512) : ∃ (rx : (Except String Int32) × XT) (rm : Int32 × MT), gX12_writeSpool u p1 = some rx ∧ gX13_writeSpool v p1 = some rm ∧ AG ["java/util/NoSuchElementException"] rx.1 (mt_th rm.2) (fun w => w = rm.1) ∧ RLx (t + 1) rx.2 rm.2 := by
  obtain ⟨h1, h2, h3, h4, h5, h6, h7⟩ := RLx_mono h ht
  unfold gX12_writeSpool gX13_writeSpool
  rcases q_ws (um := xt_bm u) h.1 (by omega) p1 h7 with ⟨e1, e2⟩ | ⟨l', q', um', v', ln', e1, e2, e3⟩
  · rw [e1, e2]; exact ⟨_, _, rfl, rfl, ⟨kxN, show (1 : Int32) ≠ 0 by decide⟩, h1, h2, h3, h4, h5, h6, h7⟩
  · rw [e1, e2]; exact ⟨_, _, rfl, rfl, ⟨rfl, rfl⟩, h1, h2, h3, h4, h5, h6, e3⟩
theorem wo_L {m o : Nat} {um : Int32} {oN oM oL oD x : Nat → Int32} (h : OR m o oN oM oL oD x) (ho : o < 6200) : ∀ (d f1 f2 i l q : Nat) (v ln : Nat → Int32), d < f1 → d < f2 → i + d = m → l ≤ 12 * i → TS l q v ln →
    ∃ l' q' v' ln', fX12_writeOrders_L10 um (nI m) oN (nI m) oM (nI m) oL (nI m) oD f1 (nI i) (nI l) q v = some (nI l', um, nI l', q', v') ∧ fX13_writeOrders_L12 0 x f2 (nI i) (nI l) ln = some (nI l', 0, nI l', ln') ∧ TS l' q' v' ln' ∧ l' ≤ 144 := by
  have hm := h.1
  intro d
  induction d with
  | zero =>
    intro f1 f2 i l q v ln hf1 hf2 hi hl hT
    obtain ⟨f1, rfl⟩ : ∃ q, f1 = q + 1 := ⟨f1 - 1, by omega⟩
    obtain ⟨f2, rfl⟩ : ∃ q, f2 = q + 1 := ⟨f2 - 1, by omega⟩
    refine ⟨l, q, v, ln, ?_, ?_, hT, by omega⟩
    · rw [fX12_writeOrders_L10, fX5_count, fX7_size, ob, ob, if_pos (nI_le (by omega) (by omega))]; rfl
    · rw [fX13_writeOrders_L12, h.2.1, if_pos (nI_le (by omega) (by omega))]
  | succ d ih =>
    intro f1 f2 i l q v ln hf1 hf2 hi hl hT
    obtain ⟨f1, rfl⟩ : ∃ q, f1 = q + 1 := ⟨f1 - 1, by omega⟩
    obtain ⟨f2, rfl⟩ : ∃ q, f2 = q + 1 := ⟨f2 - 1, by omega⟩
    obtain ⟨y1, y2, y3, y4⟩ := h.2.2.2.1 i (by omega)
    obtain ⟨⟨mq, hmq, u1⟩, ⟨a, a1, a2, u2⟩, ⟨dd, d1, d2, u3⟩, ⟨nn, w1, w2⟩⟩ := h.2.2.2.2.1 i (by omega)
    have k1 := dgn4 nn
    have k2 := dgn3 (show a < 1000 by omega)
    have k3 := dgn2 (show dd < 100 by omega)
    rw [fX12_writeOrders_L10, fX13_writeOrders_L12, h.2.1, fX5_count, fX7_size, ob, ob, if_neg (nI_ge (by omega) (by omega)), if_neg (nI_ge (by omega) (by omega))]
    by_cases g : i = 0
    · subst g
      have hl0 : l = 0 := by omega
      subst hl0
      obtain ⟨q2, v2, ln2, b1, b2, b3⟩ := w_I (n := nn) hT (by omega) (by omega)
      obtain ⟨q3, v3, ln3, c1, c2, c3⟩ := w_C (a := 97 + mq) b3 (by omega) (by omega)
      obtain ⟨q4, v4, ln4, e1, e2, e3⟩ := w_I (n := a) c3 (by omega) (by omega)
      obtain ⟨q5, v5, ln5, f1', f2', f3'⟩ := w_C (a := 64) e3 (by omega) (by omega)
      obtain ⟨q6, v6, ln6, g1, g2, g3⟩ := w_I (n := dd) f3' (by omega) (by omega)
      obtain ⟨l', q', v', ln', r1, r2, r3, r4⟩ := ih f1 f2 (0 + 1) _ q6 v6 ln6 (by omega) (by omega) (by omega) (by omega) g3
      refine ⟨l', q', v', ln', ?_, ?_, r3, r4⟩
      · rw [if_pos (show nI 0 ≤ 0 by decide), fX5_numberAt, row_get (by omega) hm (by omega), ob, ob, w2, b1, ob, fX5_materialAt, row_get (by omega) hm (by omega), ob, ob, u1, ch_id (by omega), c1, ob, fX5_lengthAt, row_get (by omega) hm (by omega), ob, ob, u2, e1, ob, show fapC _ q4 v4 64 = _ from f1', ob, fX5_dueAt, row_get (by omega) hm (by omega), ob, ob, u3, g1, ob, nI_1]
        exact r1
      · rw [if_pos (show nI 0 ≤ 0 by decide), m_or0 (by omega), ob, y1, w2, b2, ob, m_or1 (by omega), ob, y2, u1, m97 hmq, p97, c2, ob, m_or2 (by omega), ob, y3, u2, e2, ob, show fX13_writes _ ln4 64 = _ from f2', ob, m_or3 (by omega), ob, y4, u3, g2, ob, nI_1]
        exact r2
    · obtain ⟨q1, v1, ln1, z1, z2, z3⟩ := w_C (a := 32) hT (by omega) (by omega)
      obtain ⟨q2, v2, ln2, b1, b2, b3⟩ := w_I (n := nn) z3 (by omega) (by omega)
      obtain ⟨q3, v3, ln3, c1, c2, c3⟩ := w_C (a := 97 + mq) b3 (by omega) (by omega)
      obtain ⟨q4, v4, ln4, e1, e2, e3⟩ := w_I (n := a) c3 (by omega) (by omega)
      obtain ⟨q5, v5, ln5, f1', f2', f3'⟩ := w_C (a := 64) e3 (by omega) (by omega)
      obtain ⟨q6, v6, ln6, g1, g2, g3⟩ := w_I (n := dd) f3' (by omega) (by omega)
      obtain ⟨l', q', v', ln', r1, r2, r3, r4⟩ := ih f1 f2 (i + 1) _ q6 v6 ln6 (by omega) (by omega) (by omega) (by omega) g3
      refine ⟨l', q', v', ln', ?_, ?_, r3, r4⟩
      · rw [if_neg (nI_nle (by omega) (by omega)), show fapC (nI l) q v 32 = _ from z1, ob, fX5_numberAt, row_get (by omega) hm (by omega), ob, ob, w2, b1, ob, fX5_materialAt, row_get (by omega) hm (by omega), ob, ob, u1, ch_id (by omega), c1, ob, fX5_lengthAt, row_get (by omega) hm (by omega), ob, ob, u2, e1, ob, show fapC _ q4 v4 64 = _ from f1', ob, fX5_dueAt, row_get (by omega) hm (by omega), ob, ob, u3, g1, ob, nI_1]
        exact r1
      · rw [if_neg (nI_nle (by omega) (by omega)), show fX13_writes (nI l) ln 32 = _ from z2, ob, m_or0 (by omega), ob, y1, w2, b2, ob, m_or1 (by omega), ob, y2, u1, m97 hmq, p97, c2, ob, m_or2 (by omega), ob, y3, u2, e2, ob, show fX13_writes _ ln4 64 = _ from f2', ob, m_or3 (by omega), ob, y4, u3, g2, ob, nI_1]
        exact r2
theorem F_writeOrders {t : Nat} {u : XT} {v : MT} (h : RLx t u v) (ht : t < 512) : ∃ (rx : Int32 × XT) (rm : Int32 × MT), gX12_writeOrders u = some rx ∧ gX13_writeOrders v = some rm ∧ rx.1 = rm.1 ∧ RLx (t + 1) rx.2 rm.2 := by
  obtain ⟨h1, h2, h3, h4, h5, h6, h7⟩ := RLx_mono h ht
  have q : ∃ l' q' um' v' ln', fX12_writeOrders (wt_oNn (xt_w u)) (wt_oNf (xt_w u)) (wt_oMn (xt_w u)) (wt_oMf (xt_w u)) (wt_oLn (xt_w u)) (wt_oLf (xt_w u)) (wt_oDn (xt_w u)) (wt_oDf (xt_w u)) (xt_bm u) (xt_bn u) (xt_bq u) (xt_bv u) = some (nI l', um', nI l', q', v') ∧ fX13_writeOrders (mt_w v) (mt_ln v) = some (nI l', 0, nI l', ln') ∧ TS l' q' v' ln' ∧ l' ≤ 144 := by
    obtain ⟨n, s, m, o, c, k, l, r, ac, N, M, L, K, cM, cL, T, oN, oM, oL, oD, W, D, A, e, g1, g2, g3, g4, g5, g6, g7, g8⟩ := h.1
    rw [e]
    dsimp only [wt_oNn, wt_oNf, wt_oMn, wt_oMf, wt_oLn, wt_oLf, wt_oDn, wt_oDf]
    have hlr := h7
    obtain ⟨l0, p1, p2, p3, p4, p5, p6, p7⟩ := h7
    obtain ⟨um', q1, v1, s1, s2⟩ := ln_set (um := xt_bm u) hlr p2 (by omega)
    have hm := g2.1
    have hq : xt_bq u ≤ 290 := by omega
    obtain ⟨l', q', v', ln', r1, r2, r3, r4⟩ := wo_L (um := um') g2 (by omega) m FU FU 0 0 q1 v1 (mt_ln v) (FU_lt (by omega)) (FU_lt (by omega)) (by omega) (Nat.zero_le _) s2
    refine ⟨l', q', um', v', ln', ?_, r2, r3, r4⟩
    unfold fX12_writeOrders
    rw [gd_t (decide_eq_true hq), s1, ob]
    exact r1
  obtain ⟨l', q', um', v', ln', e1, e2, e3, e4⟩ := q
  unfold gX12_writeOrders gX13_writeOrders
  rw [e1, e2]
  exact ⟨_, _, rfl, rfl, rfl, h1, h2, h3, h4, h5, h6, LR_of e3 e4⟩
