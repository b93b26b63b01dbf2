/-! pure layer: undo, save, restore; errors; typing; the line's letters -/
theorem un_L {s : Nat} {c t : Int32} {un : Nat → Int32} (hs : s < 8) : ∀ (d k i : Nat) (w : Nat → Int32), d < k → i + d = 201 →
    fX13_undo_L43 (nI s) t c un k (nI i) w = some (c, t, c, fun j => if i ≤ j ∧ j < 201 then un (201 * s + j) else w j) := by
  intro d
  induction d with
  | zero =>
    intro k i w hk hi
    obtain ⟨k, rfl⟩ : ∃ q, k = q + 1 := ⟨k - 1, by omega⟩
    rw [fX13_undo_L43, if_pos (show (201 : Int32) ≤ nI i from nI_le (a := 201) (by omega) (by omega))]
    congr 4
    funext j
    rw [if_neg (by omega)]
  | succ d ih =>
    intro k i w hk hi
    obtain ⟨k, rfl⟩ : ∃ q, k = q + 1 := ⟨k - 1, by omega⟩
    have e : (201 : Int32) * nI s + nI i = nI (201 * s + i) := by rw [show (201 : Int32) = nI 201 from rfl, pk_mul, nI_add]
    rw [fX13_undo_L43, if_neg (show ¬ (201 : Int32) ≤ nI i from nI_ge (b := 201) (by omega) (by omega)), e, gd_t (inR_n (by omega) (by omega)), gd_t (inR_n (by omega) (by omega)), nI_clamp (by omega), nI_clamp (by omega), nI_1, ih _ _ _ (by omega) (by omega)]
    congr 4
    funext j
    simp only [upd_e]
    by_cases h1 : i + 1 ≤ j ∧ j < 201
    · rw [if_pos h1, if_pos (show i ≤ j ∧ j < 201 by omega)]
    · rw [if_neg h1]
      by_cases h2 : j = i
      · rw [if_pos h2, if_pos (show i ≤ j ∧ j < 201 by omega), h2]
      · rw [if_neg h2, if_neg (show ¬ (i ≤ j ∧ j < 201) by omega)]
theorem sv_L {w : Nat → Int32} {t : Int32} : ∀ (d k i : Nat) (f : Nat → Int32), d < k → i + d = 201 →
    fX13_save_L7 t w k (nI i) f = some (w 0, t, 1, fun j => if i ≤ j ∧ j < 201 then w j else f j) := by
  intro d
  induction d with
  | zero =>
    intro k i f hk hi
    obtain ⟨k, rfl⟩ : ∃ q, k = q + 1 := ⟨k - 1, by omega⟩
    rw [fX13_save_L7, if_pos (show (201 : Int32) ≤ nI i from nI_le (a := 201) (by omega) (by omega))]
    congr 4
    funext j
    rw [if_neg (by omega)]
  | succ d ih =>
    intro k i f hk hi
    obtain ⟨k, rfl⟩ : ∃ q, k = q + 1 := ⟨k - 1, by omega⟩
    rw [fX13_save_L7, if_neg (show ¬ (201 : Int32) ≤ nI i from nI_ge (b := 201) (by omega) (by omega)), gd_t (inR_n (by omega) (by omega)), gd_t (inR_n (by omega) (by omega)), nI_clamp (by omega), nI_1, ih _ _ _ (by omega) (by omega)]
    congr 4
    funext j
    simp only [upd_e]
    by_cases h1 : i + 1 ≤ j ∧ j < 201
    · rw [if_pos h1, if_pos (show i ≤ j ∧ j < 201 by omega)]
    · rw [if_neg h1]
      by_cases h2 : j = i
      · rw [if_pos h2, if_pos (show i ≤ j ∧ j < 201 by omega), h2]
      · rw [if_neg h2, if_neg (show ¬ (i ≤ j ∧ j < 201) by omega)]
theorem rs_L {sr : Nat → Int32} {t : Int32} : ∀ (d k i : Nat) (f : Nat → Int32), d < k → i + d = 201 → (∀ j, j < i → f j = sr j) →
    fX13_restore_L20 t sr k (nI i) f = some (sr 0, t, 0, 0, fun j => if i ≤ j ∧ j < 201 then sr j else f j) := by
  intro d
  induction d with
  | zero =>
    intro k i f hk hi h0
    obtain ⟨k, rfl⟩ : ∃ q, k = q + 1 := ⟨k - 1, by omega⟩
    rw [fX13_restore_L20, if_pos (show (201 : Int32) ≤ nI i from nI_le (a := 201) (by omega) (by omega)), h0 0 (by omega)]
    congr 5
    funext j
    rw [if_neg (by omega)]
  | succ d ih =>
    intro k i f hk hi h0
    obtain ⟨k, rfl⟩ : ∃ q, k = q + 1 := ⟨k - 1, by omega⟩
    rw [fX13_restore_L20, if_neg (show ¬ (201 : Int32) ≤ nI i from nI_ge (b := 201) (by omega) (by omega)), gd_t (inR_n (by omega) (by omega)), gd_t (inR_n (by omega) (by omega)), nI_clamp (by omega), nI_1, ih _ _ _ (by omega) (by omega) (fun j hj => by
      by_cases e : j = i
      · subst e; exact pk_us
      · rw [pk_un e]; exact h0 j (by omega))]
    congr 5
    funext j
    simp only [upd_e]
    by_cases h1 : i + 1 ≤ j ∧ j < 201
    · rw [if_pos h1, if_pos (show i ≤ j ∧ j < 201 by omega)]
    · rw [if_neg h1]
      by_cases h2 : j = i
      · rw [if_pos h2, if_pos (show i ≤ j ∧ j < 201 by omega), h2]
      · rw [if_neg h2, if_neg (show ¬ (i ≤ j ∧ j < 201) by omega)]
theorem kxS {Es : List String} : kx ("java/lang/IllegalStateException" :: Es) (.error "java/lang/IllegalStateException" : Except String Int32) = some 1 := by
  unfold kx; exact if_pos rfl
theorem F_save {t : Nat} {u : XT} {v : MT} (h : RLx t u v) (ht : t < 512) : ∃ (rx : Int32 × XT) (rm : Int32 × MT), gX12_save u = some rx ∧ gX13_save v = some rm ∧ rx.1 = rm.1 ∧ RLx (t + 1) rx.2 rm.2 := by
  have hm := RLx_mono h ht
  obtain ⟨h1, h2, h3, h4⟩ := hm
  obtain ⟨w2, e1, e2⟩ := W_cpy h1 (wt_sNn (xt_v u)) (wt_sNf (xt_v u)) (wt_sMn (xt_v u)) (wt_sMf (xt_v u)) (wt_sLn (xt_v u)) (wt_sLf (xt_v u)) (wt_sKn (xt_v u)) (wt_sKf (xt_v u)) (wt_cMn (xt_v u)) (wt_cMf (xt_v u)) (wt_cLn (xt_v u)) (wt_cLf (xt_v u)) (wt_cTn (xt_v u)) (wt_cTf (xt_v u)) (wt_oNn (xt_v u)) (wt_oNf (xt_v u)) (wt_oMn (xt_v u)) (wt_oMf (xt_v u)) (wt_oLn (xt_v u)) (wt_oLf (xt_v u)) (wt_oDn (xt_v u)) (wt_oDf (xt_v u)) (wt_aWn (xt_v u)) (wt_aWf (xt_v u)) (wt_aDn (xt_v u)) (wt_aDf (xt_v u)) (wt_aLn (xt_v u)) (wt_aLf (xt_v u))
  have f1 : gX12_save u = some (wt_sNn (xt_w u), (1, xt_e u, xt_f u, xt_w u, w2, xt_hn u, xt_hc u, xt_hS u, xt_lt u, xt_lpn u, xt_lpf u, xt_pl u, xt_pp u, xt_pc u, xt_pt u, xt_pK u, xt_bm u, xt_bn u, xt_bq u, xt_bv u)) := by
    unfold gX12_save fX12_save
    rw [e1]; rfl
  have f2 : gX13_save v = some ((mt_w v) 0, (0, mt_ch v, mt_fc v, 1, mt_ll v, mt_bl v, mt_ba v, mt_ea v, mt_fa v, mt_so v, mt_dn v, mt_w v, mt_un v, (fun j => if 0 ≤ j ∧ j < 201 then (mt_w v) j else (mt_sr v) j), mt_be v, mt_bs v, mt_ln v, mt_bu v, mt_nu v)) := by
    unfold gX13_save fX13_save
    rw [show fX13_save_L7 0 (mt_w v) FU 0 (mt_sr v) = _ from sv_L 201 FU 0 (mt_sr v) (FU_lt (by omega)) rfl]; rfl
  refine ⟨_, _, f1, f2, ?_, h1, Or.inr ⟨rfl, rfl, WR_fr e2 (fun j hj => if_pos ⟨Nat.zero_le _, hj⟩)⟩, h3, h4⟩
  obtain ⟨n, s, m, o, c, k, l, r, ac, N, M, L, K, cM, cL, T, oN, oM, oL, oD, W, D, A, e, g1, g2⟩ := h1
  show wt_sNn (xt_w u) = (mt_w v) 0
  rw [e, g1.2.1]
theorem F_restore {t : Nat} {u : XT} {v : MT} (h : RLx t u v) (ht : t < 512) : ∃ (rx : (Except String Int32) × XT) (rm : Int32 × MT), gX12_restore u = some rx ∧ gX13_restore v = some rm ∧ AG ["java/lang/IllegalStateException"] rx.1 (mt_th rm.2) (fun w => w = rm.1) ∧ RLx (t + 1) rx.2 rm.2 := by
  have hm := RLx_mono h ht
  obtain ⟨h1, h2, ⟨hn, hc, fc, a1, a2, a3, a4, a5⟩, h4⟩ := hm
  rcases h2 with ⟨i1, i2⟩ | ⟨i1, i2, i3⟩
  · have f1 : gX12_restore u = some (.error "java/lang/IllegalStateException", u) := by
      unfold gX12_restore fX12_restore
      rw [if_pos i1]; rfl
    have f2 : gX13_restore v = some (0, ((1, v.2) : MT)) := by
      unfold gX13_restore fX13_restore
      rw [if_pos i2]; rfl
    exact ⟨_, _, f1, f2, ⟨kxS, show (1 : Int32) ≠ 0 by decide⟩, RLx_th 1 h ht⟩
  · obtain ⟨w2, e1, e2⟩ := W_cpy i3 (wt_sNn (xt_w u)) (wt_sNf (xt_w u)) (wt_sMn (xt_w u)) (wt_sMf (xt_w u)) (wt_sLn (xt_w u)) (wt_sLf (xt_w u)) (wt_sKn (xt_w u)) (wt_sKf (xt_w u)) (wt_cMn (xt_w u)) (wt_cMf (xt_w u)) (wt_cLn (xt_w u)) (wt_cLf (xt_w u)) (wt_cTn (xt_w u)) (wt_cTf (xt_w u)) (wt_oNn (xt_w u)) (wt_oNf (xt_w u)) (wt_oMn (xt_w u)) (wt_oMf (xt_w u)) (wt_oLn (xt_w u)) (wt_oLf (xt_w u)) (wt_oDn (xt_w u)) (wt_oDf (xt_w u)) (wt_aWn (xt_w u)) (wt_aWf (xt_w u)) (wt_aDn (xt_w u)) (wt_aDf (xt_w u)) (wt_aLn (xt_w u)) (wt_aLf (xt_w u))
    have f1 : gX12_restore u = some (.ok (wt_sNn w2), (xt_i u, xt_e u, xt_f u, w2, xt_v u, xt_hn u, 0, xt_hS u, xt_lt u, xt_lpn u, xt_lpf u, xt_pl u, xt_pp u, xt_pc u, xt_pt u, xt_pK u, xt_bm u, xt_bn u, xt_bq u, xt_bv u)) := by
      unfold gX12_restore fX12_restore
      rw [if_neg (by rw [i1]; decide), e1]; rfl
    have f2 : gX13_restore v = some ((mt_sr v) 0, (0, 0, 0, mt_sv v, mt_ll v, mt_bl v, mt_ba v, mt_ea v, mt_fa v, mt_so v, mt_dn v, (fun j => if 0 ≤ j ∧ j < 201 then (mt_sr v) j else (mt_w v) j), mt_un v, mt_sr v, mt_be v, mt_bs v, mt_ln v, mt_bu v, mt_nu v)) := by
      unfold gX13_restore fX13_restore
      rw [if_neg (by rw [i2]; decide), show fX13_restore_L20 0 (mt_sr v) FU 0 (mt_w v) = _ from rs_L 201 FU 0 (mt_w v) (FU_lt (by omega)) rfl (fun j hj => absurd hj (Nat.not_lt_zero _))]; rfl
    refine ⟨_, _, f1, f2, ⟨rfl, ?_⟩, WR_fr e2 (fun j hj => if_pos ⟨Nat.zero_le _, hj⟩), Or.inr ⟨i1, i2, i3⟩, ⟨hn, 0, 0, a1, rfl, rfl, rfl, a5.1, by omega, by omega, fun i hi => absurd hi (Nat.not_lt_zero _)⟩, h4⟩
    obtain ⟨n, s, m, o, c, k, l, r, ac, N, M, L, K, cM, cL, T, oN, oM, oL, oD, W, D, A, e, g1, g2⟩ := e2
    show wt_sNn w2 = (mt_sr v) 0
    rw [e, g1.2.1]
theorem F_undo {t : Nat} {u : XT} {v : MT} (h : RLx t u v) (ht : t < 512) : ∃ (rx : (Except String Int32) × XT) (rm : Int32 × MT), gX12_undo u = some rx ∧ gX13_undo v = some rm ∧ AG ["java/lang/IllegalStateException"] rx.1 (mt_th rm.2) (fun w => w = rm.1) ∧ RLx (t + 1) rx.2 rm.2 := by
  have hm := RLx_mono h ht
  obtain ⟨h1, h2, ⟨hn, hc, fc, a1, a2, a3, a4, a5⟩, h4⟩ := hm
  obtain ⟨b1, b2, b3, b4⟩ := a5
  by_cases hc0 : hc = 0
  · subst hc0
    have f1 : gX12_undo u = some (.error "java/lang/IllegalStateException", u) := by
      unfold gX12_undo fX12_undo fX3_count
      rw [a2, ob, if_neg (by decide)]; rw [← a2]; rfl
    have f2 : gX13_undo v = some (0, ((1, v.2) : MT)) := by
      unfold gX13_undo fX13_undo
      rw [a3, if_pos (show nI 0 = 0 from rfl), ← a3]; rfl
    exact ⟨_, _, f1, f2, ⟨kxS, show (1 : Int32) ≠ 0 by decide⟩, RLx_th 1 h ht⟩
  · obtain ⟨hd, rfl⟩ : ∃ q, hc = q + 1 := ⟨hc - 1, by omega⟩
    have hw := b4 0 (by omega)
    obtain ⟨w2, e1, e2⟩ := W_cpy hw (wt_sNn (xt_w u)) (wt_sNf (xt_w u)) (wt_sMn (xt_w u)) (wt_sMf (xt_w u)) (wt_sLn (xt_w u)) (wt_sLf (xt_w u)) (wt_sKn (xt_w u)) (wt_sKf (xt_w u)) (wt_cMn (xt_w u)) (wt_cMf (xt_w u)) (wt_cLn (xt_w u)) (wt_cLf (xt_w u)) (wt_cTn (xt_w u)) (wt_cTf (xt_w u)) (wt_oNn (xt_w u)) (wt_oNf (xt_w u)) (wt_oMn (xt_w u)) (wt_oMf (xt_w u)) (wt_oLn (xt_w u)) (wt_oLf (xt_w u)) (wt_oDn (xt_w u)) (wt_oDf (xt_w u)) (wt_aWn (xt_w u)) (wt_aWf (xt_w u)) (wt_aDn (xt_w u)) (wt_aDf (xt_w u)) (wt_aLn (xt_w u)) (wt_aLf (xt_w u))
    have f1 : gX12_undo u = some (.ok (nI hd), (xt_i u, xt_e u, xt_f u, w2, xt_v u, nI ((hn + 8) % 9), nI hd, xt_hS u, xt_lt u, xt_lpn u, xt_lpf u, xt_pl u, xt_pp u, xt_pc u, xt_pt u, xt_pK u, xt_bm u, xt_bn u, xt_bq u, xt_bv u)) := by
      unfold gX12_undo fX12_undo fX3_count
      rw [a1, a2, ob, if_pos (show (0 : Int32) < nI (hd + 1) from nI_lt (a := 0) (by omega) (by omega))]
      unfold fX3_takeBack
      by_cases g : hn = 0
      · subst g
        rw [if_pos (show nI 0 ≤ 0 by decide)]
        unfold fX3_abandon
        rw [if_neg (show ¬ (8 : Int32) < 0 by decide), if_neg (show ¬ nI 9 ≤ (8 : Int32) by decide), gd_t (show inR 8 9 = true by decide), gd_t (show inR 8 9 = true by decide), nI_pred]
        have e1' := e1
        rw [show (0 + 8 - 0) % 9 = (8 : Int32).toNatClampNeg from rfl] at e1'
        rw [e1']; rfl
      · obtain ⟨f, rfl⟩ : ∃ q, hn = q + 1 := ⟨hn - 1, by omega⟩
        rw [if_neg (nI_nle (by omega) (by omega)), nI_pred]
        unfold fX3_abandon
        rw [if_neg (nI_pos (by omega)), if_neg (nI_ge (by omega) (by omega)), gd_t (inR_n (show f < 9 by omega) (by omega)), gd_t (inR_n (show f < 9 by omega) (by omega)), nI_clamp (by omega), nI_pred]
        have e1' := e1
        rw [show (f + 1 + 8 - 0) % 9 = f by omega] at e1'
        rw [e1', show (f + 1 + 8) % 9 = f by omega]; rfl
    have f2 : gX13_undo v = some (nI hd, (0, nI hd, mt_fc v, mt_sv v, mt_ll v, mt_bl v, mt_ba v, mt_ea v, mt_fa v, mt_so v, mt_dn v, (fun j => if 0 ≤ j ∧ j < 201 then (mt_un v) (201 * ((fc + hd) % 8) + j) else (mt_w v) j), mt_un v, mt_sr v, mt_be v, mt_bs v, mt_ln v, mt_bu v, mt_nu v)) := by
      unfold gX13_undo fX13_undo
      rw [a3, a4, if_neg (nI_ne0 (by omega) (by omega)), nI_pred, nI_add, r8 (by omega), show fX13_undo_L43 (nI ((fc + hd) % 8)) 0 (nI hd) (mt_un v) FU 0 (mt_w v) = _ from un_L (by omega) 201 FU 0 (mt_w v) (FU_lt (by omega)) rfl, ob]
    refine ⟨_, _, f1, f2, ⟨rfl, rfl⟩, WR_fr e2 (fun j hj => ?_), h2, ⟨(hn + 8) % 9, hd, fc, rfl, rfl, rfl, a4, by omega, by omega, b3, fun i hi => ?_⟩, h4⟩
    · show (if 0 ≤ j ∧ j < 201 then (mt_un v) (201 * ((fc + hd) % 8) + j) else (mt_w v) j) = mt_un v (201 * ((fc + (hd + 1) - 1 - 0) % 8) + j)
      rw [if_pos ⟨Nat.zero_le _, hj⟩, show fc + (hd + 1) - 1 - 0 = fc + hd by omega]
    · have := b4 (i + 1) (by omega)
      rw [show ((hn + 8) % 9 + 8 - i) % 9 = (hn + 8 - (i + 1)) % 9 by omega, show fc + hd - 1 - i = fc + (hd + 1) - 1 - (i + 1) by omega]
      exact this
theorem q_err {e ea : Int32} (h : QR e ea) : QS ["java/util/NoSuchElementException"] (if e = -1 then some (.error "java/util/NoSuchElementException") else some (.ok e)) (if 0 ≤ ea then some (ea, 0) else (fX13_fails 1).bind fun z2 => some (z2.1, z2.2)) := by
  obtain ⟨rfl, h⟩ := h
  rcases h with rfl | ⟨a, ha, rfl⟩
  · rw [if_pos rfl, if_neg (by decide)]; exact QS_er rfl rfl kxN (by decide)
  · rw [if_neg (show ¬ nI a = -1 from oI_m1 (i := a) (by omega)), if_pos (nI_pos' (by omega))]; exact QS_ok rfl rfl
theorem F_type {t : Nat} {u : XT} {v : MT} (x1 : Int32) (h : RLx t u v) (ht : t < 512) : ∃ (rx : (Except String Int32) × XT) (rm : Int32 × MT), gX12_type u (c16 x1) = some rx ∧ gX13_type v (c16 x1) = some rm ∧ AG ["java/lang/IllegalStateException"] rx.1 (mt_th rm.2) (fun w => w = rm.1) ∧ RLx (t + 1) rx.2 rm.2 := by
  have hm := RLx_mono h ht
  obtain ⟨h1, h2, h3, h4, h5, ⟨l, p1, p2, p3, p4⟩, h7⟩ := hm
  by_cases g : l = 60
  · subst g
    have f1 : gX12_type u (c16 x1) = some (.error "java/lang/IllegalStateException", u) := by
      unfold gX12_type fX12_type fX6_isFull
      rw [p2, if_neg (by decide), ob, if_neg (by decide), ← p2]; rfl
    have f2 : gX13_type v (c16 x1) = some (0, ((1, v.2) : MT)) := by
      unfold gX13_type fX13_type
      rw [p3, if_pos (show nI 60 = 60 from rfl), ← p3]; rfl
    exact ⟨_, _, f1, f2, ⟨kxS, show (1 : Int32) ≠ 0 by decide⟩, RLx_th 1 h ht⟩
  · have f1 : gX12_type u (c16 x1) = some (.ok (nI (l + 1)), (xt_i u, xt_e u, xt_f u, xt_w u, xt_v u, xt_hn u, xt_hc u, xt_hS u, xt_lt u, xt_lpn u, xt_lpf u, nI (l + 1), xt_pp u, xt_pc u, upd (xt_pt u) l (vp_nar .char (c16 x1)), xt_pK u, xt_bm u, xt_bn u, xt_bq u, xt_bv u)) := by
      unfold gX12_type fX12_type fX6_isFull fX6_append
      rw [p2, if_pos (nI_lt (by omega) (by omega)), ob, if_pos rfl, if_neg (nI_pos (by omega)), if_neg (nI_ge (by omega) (by omega)), gd_t (inR_n (by omega) (by omega)), nI_clamp (by omega), nI_1]; rfl
    have f2 : gX13_type v (c16 x1) = some (nI (l + 1), (0, mt_ch v, mt_fc v, mt_sv v, mt_ll v, nI (l + 1), mt_ba v, mt_ea v, mt_fa v, mt_so v, mt_dn v, mt_w v, mt_un v, mt_sr v, mt_be v, mt_bs v, mt_ln v, upd (mt_bu v) l (vp_nar .char (c16 x1)), mt_nu v)) := by
      unfold gX13_type fX13_type
      rw [p3, if_neg (show ¬ nI l = 60 from fun e => g ((nI_eq (b := 60) (by omega) (by omega)).mp e)), gd_t (inR_n (by omega) (by omega)), nI_clamp (by omega), nI_1]; rfl
    refine ⟨_, _, f1, f2, ⟨rfl, rfl⟩, h1, h2, h3, h4, h5, ⟨l + 1, by omega, rfl, rfl, fun j hj => ?_⟩, h7⟩
    show upd (xt_pt u) l _ j = upd (mt_bu v) l _ j ∧ isC (upd (mt_bu v) l _ j) = true
    rw [upd_e, upd_e]
    by_cases e : j = l
    · rw [if_pos e, if_pos e]
      refine ⟨rfl, ?_⟩
      have ec : vp_nar .char (c16 x1) = c16 x1 := by unfold vp_nar; rw [pk_nc]
      rw [ec, show c16 x1 = nI (x1.toBitVec.toNat % 65536) from pk_char x1]
      exact isC_nI (Nat.mod_lt _ (by omega))
    · rw [if_neg e, if_neg e]; exact p4 j (by omega)
theorem b255 : ∀ a : Nat, a < 128 → nI a &&& 255 = nI a := by decide +kernel
theorem F_charAt {t : Nat} {u : XT} {v : MT} (x1 : Int32) (h : RLx t u v) (ht : t < 512) : ∃ (rx : (Except String Int32) × XT) (rm : Int32 × MT), gX12_charAt u x1 = some rx ∧ gX13_charAt v x1 = some rm ∧ AG ["java/lang/IndexOutOfBoundsException"] rx.1 (mt_th rm.2) (fun w => w = rm.1) ∧ RLx (t + 1) rx.2 rm.2 := by
  obtain ⟨l, p1, p2, p3, p4, p5, p6, p7⟩ := h.2.2.2.2.2.2
  have q : QS ["java/lang/IndexOutOfBoundsException"] (fX12_charAt (xt_bn u) (xt_bq u) (xt_bv u) x1) (fX13_charAt (mt_ll v) (mt_ln v) x1) := by
    have kI : kx ["java/lang/IndexOutOfBoundsException"] (.error "java/lang/IndexOutOfBoundsException" : Except String Int32) = some 1 := by decide
    unfold fX12_charAt fX13_charAt fJ4_length_8abf5 fJ5_length_8abf5 fJ4_charAt_5068e fJ5_charAt_5068e
    rw [btw, ob, p2, p3]
    by_cases g1 : x1 < 0
    · rw [if_pos g1, if_pos g1]; exact QS_er rfl rfl kI (by decide)
    · rw [if_neg g1, if_neg g1]
      obtain ⟨j, hj, rfl⟩ := nI_of g1
      by_cases g2 : j < l
      · have e : ¬ nI l - 1 < nI j := by
          obtain ⟨f, rfl⟩ : ∃ q, l = q + 1 := ⟨l - 1, by omega⟩
          rw [nI_pred]; exact nI_nlt (by omega) (by omega)
        have hq : xt_bq u < 1000 := by omega
        obtain ⟨a, ha, ea⟩ := p6 j (by omega)
        have e2 : cki (nI j) (mn32 (nI l) (nI (xt_bq u))) = true := by
          have : nI j < mn32 (nI l) (nI (xt_bq u)) := by
            show nI j < (if nI (xt_bq u) < nI l then nI (xt_bq u) else nI l)
            split
            · exact nI_lt (by omega) (by omega)
            · exact nI_lt g2 (by omega)
          exact decide_eq_true ⟨nI_pos (by omega), this⟩
        rw [ob, ob, if_pos (nI_lt g2 (by omega)), if_neg e, if_neg (by decide), gd_t e2, gd_t (inR_n (by omega) (by omega)), nI_clamp (by omega), ob, ea, b255 a ha, ch_id (by omega), gd_t (isC_nI (by omega)), ob, gd_t (inR_n (by omega) (by omega)), p7 j g2, ea]
        exact QS_ok (gd_t (isC_nI (by omega))) (gd_t (isC_nI (by omega)))
      · have e : nI l - 1 < nI j := by
          by_cases g3 : l = 0
          · subst g3
            exact Int32.lt_of_lt_of_le (show nI 0 - 1 < 0 by decide) (nI_pos' (by omega))
          · obtain ⟨f, rfl⟩ : ∃ q, l = q + 1 := ⟨l - 1, by omega⟩
            rw [nI_pred]; exact nI_lt (by omega) (by omega)
        rw [ob, ob, if_neg (nI_nlt (by omega) (by omega)), if_pos e]
        exact QS_er rfl rfl kI (by decide)
  exact Q_x h ht q
