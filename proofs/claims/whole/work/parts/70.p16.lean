/-! pure layer: the commands' steps -/
theorem kx1 {E e : String} {a : Int32} (h : kx [E] (.error e : Except String Int32) = some a) : a = 1 := by
  unfold kx at h
  dsimp only at h
  by_cases g : e = E
  · rw [if_pos g] at h; exact (Option.some.inj h).symm
  · rw [if_neg g] at h; cases h
theorem SIM_mono {b b' : Nat} {w : WT} {Es : List String} {r : Option ((Except String Int32) × WT)} {no : Option Int32} {ex : Option (Int32 × (Nat → Int32))} (h : SIM b w Es r no ex) (hb : b ≤ b') (hb' : b' < 100000) : SIM b' w Es r no ex := by
  rcases h with h | ⟨v, w', x', h1, h2, h3, h4⟩
  · exact Or.inl h
  · exact Or.inr ⟨v, w', x', h1, h2, h3, WR_mono h4 hb hb'⟩
theorem H_prep {b : Nat} {u : XT} {x : Nat → Int32} {hn : Nat} (h : WR b (xt_w u) x) (hh : xt_hn u = nI hn) (h9 : hn < 9) : ∃ w2, hprep u = some (va_up (xt_hS u) hn w2) ∧ WR b w2 x := by
  unfold hprep fX3_prepare
  rw [hh, if_neg (nI_pos (by omega)), if_neg (nI_ge (by omega) (by omega)), gd_t (inR_n h9 (by omega)), gd_t (inR_n h9 (by omega)), nI_clamp (by omega)]
  obtain ⟨w2, e1, e2⟩ := W_cpy h (wt_sNn (xt_hS u hn)) (wt_sNf (xt_hS u hn)) (wt_sMn (xt_hS u hn)) (wt_sMf (xt_hS u hn)) (wt_sLn (xt_hS u hn)) (wt_sLf (xt_hS u hn)) (wt_sKn (xt_hS u hn)) (wt_sKf (xt_hS u hn)) (wt_cMn (xt_hS u hn)) (wt_cMf (xt_hS u hn)) (wt_cLn (xt_hS u hn)) (wt_cLf (xt_hS u hn)) (wt_cTn (xt_hS u hn)) (wt_cTf (xt_hS u hn)) (wt_oNn (xt_hS u hn)) (wt_oNf (xt_hS u hn)) (wt_oMn (xt_hS u hn)) (wt_oMf (xt_hS u hn)) (wt_oLn (xt_hS u hn)) (wt_oLf (xt_hS u hn)) (wt_oDn (xt_hS u hn)) (wt_oDf (xt_hS u hn)) (wt_aWn (xt_hS u hn)) (wt_aWf (xt_hS u hn)) (wt_aDn (xt_hS u hn)) (wt_aDf (xt_hS u hn)) (wt_aLn (xt_hS u hn)) (wt_aLf (xt_hS u hn))
  refine ⟨w2, ?_, e2⟩
  show (fX11_copyFrom (wt_sNn (xt_hS u hn)) (wt_sNf (xt_hS u hn)) (wt_sMn (xt_hS u hn)) (wt_sMf (xt_hS u hn)) (wt_sLn (xt_hS u hn)) (wt_sLf (xt_hS u hn)) (wt_sKn (xt_hS u hn)) (wt_sKf (xt_hS u hn)) (wt_cMn (xt_hS u hn)) (wt_cMf (xt_hS u hn)) (wt_cLn (xt_hS u hn)) (wt_cLf (xt_hS u hn)) (wt_cTn (xt_hS u hn)) (wt_cTf (xt_hS u hn)) (wt_oNn (xt_hS u hn)) (wt_oNf (xt_hS u hn)) (wt_oMn (xt_hS u hn)) (wt_oMf (xt_hS u hn)) (wt_oLn (xt_hS u hn)) (wt_oLf (xt_hS u hn)) (wt_oDn (xt_hS u hn)) (wt_oDf (xt_hS u hn)) (wt_aWn (xt_hS u hn)) (wt_aWf (xt_hS u hn)) (wt_aDn (xt_hS u hn)) (wt_aDf (xt_hS u hn)) (wt_aLn (xt_hS u hn)) (wt_aLf (xt_hS u hn)) _ _ _ _ _ _ _ _ _ _ _ _ _ _ _ _ _ _ _ _ _ _ _ _ _ _ _ _ _ _ _ _ _ _).bind _ = _
  rw [e1, ob]
theorem F_cmd {t : Nat} {u : XT} {v : MT} {Es : List String} {r : Option ((Except String Int32) × WT)} {no : Option Int32} {ex : Option (Int32 × (Nat → Int32))} {q : Int32 → Int32} (h : RLx t u v) (ht : t < 512) (hs : SIM (12 * (t + 1)) (xt_w u) Es r no ex) (hq : ∀ (e : String) (a : Int32), kx Es (.error e : Except String Int32) = some a → q a = a) :
    ∃ rx rm, ((hprep u).bind fun S => r.bind fun z => fin u S z) = some rx ∧ mfin v q no ex = some rm ∧ AG Es rx.1 (mt_th rm.2) (fun w => w = rm.1) ∧ RLx (t + 1) rx.2 rm.2 := by
  obtain ⟨h1, h2, ⟨hn, hc, fc, a1, a2, a3, a4, a5⟩, h4⟩ := h
  obtain ⟨w2, e1, e2⟩ := H_prep h1 a1 a5.1
  rw [e1, ob]
  rcases hs with ⟨e, a, rfl, rfl, k3, k4⟩ | ⟨a, w', x', rfl, rfl, rfl, k4⟩
  · refine ⟨_, _, rfl, by unfold mfin; rw [ob, if_neg k3], ⟨?_, ?_⟩, WR_mono h1 (by omega) (by omega), VR_mono h2 (by omega) (by omega), ⟨hn, hc, fc, a1, a2, a3, a4, HR_mono (HR_prep a5) (by omega) (by omega)⟩, h4⟩
    · show kx Es _ = some (q a)
      rw [hq e a k4]; exact k4
    · show q a ≠ 0
      rw [hq e a k4]; exact k3
  · have k5 : WR (12 * (t + 1)) (va_up (xt_hS u) hn w2 hn) (mt_w v) := by rw [va_us]; exact WR_mono e2 (by omega) (by omega)
    obtain ⟨hn', hc', fc', un', r1, r2, r3⟩ := HR_kp (be := cpy (mt_be v) (mt_w v) 201) (HR_mono (HR_prep (w := w2) a5) (show 12 * t ≤ 12 * (t + 1) by omega) (by omega)) k5 (fun j hj => if_pos hj)
    have f1 : fin u (va_up (xt_hS u) hn w2) (.ok a, w') = some (.ok a, (xt_i u, xt_e u, xt_f u, w', xt_v u, nI hn', nI hc', va_up (xt_hS u) hn w2, xt_lt u, xt_lpn u, xt_lpf u, xt_pl u, xt_pp u, xt_pc u, xt_pt u, xt_pK u, xt_bm u, xt_bn u, xt_bq u, xt_bv u)) := by
      unfold fin
      dsimp only
      rw [a1, a2, r1, ob]
    have f2 : mfin v q (some 0) (some (a, x')) = some (a, (0, nI hc', nI fc', mt_sv v, mt_ll v, mt_bl v, mt_ba v, mt_ea v, mt_fa v, mt_so v, mt_dn v, x', un', mt_sr v, cpy (mt_be v) (mt_w v) 201, mt_bs v, mt_ln v, mt_bu v, mt_nu v)) := by
      unfold mfin fX13_remembers
      rw [ob, if_pos rfl, m_cp, ob, a3, a4, r2, ob, ob, ob]
    exact ⟨_, _, f1, f2, ⟨rfl, rfl⟩, k4, VR_mono h2 (by omega) (by omega), ⟨hn', hc', fc', rfl, rfl, rfl, rfl, r3⟩, h4⟩
theorem F_addSpool {t : Nat} {u : XT} {v : MT} (p1 p2 : Int32) (h : RLx t u v) (ht : t < 512) : ∃ (rx : (Except String Int32) × XT) (rm : Int32 × MT), gX12_addSpool u p1 p2 = some rx ∧ gX13_addSpool v p1 p2 = some rm ∧ AG ["java/lang/IllegalArgumentException", "java/lang/IllegalStateException"] rx.1 (mt_th rm.2) (fun w => w = rm.1) ∧ RLx (t + 1) rx.2 rm.2 := by
  rw [un_addSpool, um_addSpool]
  exact F_cmd h ht (SIM_mono (S_wind h.1 (by omega) p1 p2) (by omega) (by omega)) (fun _ _ _ => rfl)
theorem F_retire {t : Nat} {u : XT} {v : MT} (p1 : Int32) (h : RLx t u v) (ht : t < 512) : ∃ (rx : (Except String Int32) × XT) (rm : Int32 × MT), gX12_retire u p1 = some rx ∧ gX13_retire v p1 = some rm ∧ AG ["java/util/NoSuchElementException"] rx.1 (mt_th rm.2) (fun w => w = rm.1) ∧ RLx (t + 1) rx.2 rm.2 := by
  rw [un_retire, um_retire]
  exact F_cmd h ht (SIM_mono (S_ret h.1 p1) (by omega) (by omega)) (fun _ _ k => (kx1 k).symm)
theorem F_throwScraps {t : Nat} {u : XT} {v : MT} (p1 : Int32) (h : RLx t u v) (ht : t < 512) : ∃ (rx : (Except String Int32) × XT) (rm : Int32 × MT), gX12_throwScraps u p1 = some rx ∧ gX13_throwScraps v p1 = some rm ∧ AG ["java/lang/IllegalArgumentException"] rx.1 (mt_th rm.2) (fun w => w = rm.1) ∧ RLx (t + 1) rx.2 rm.2 := by
  rw [un_throwScraps, um_throwScraps]
  exact F_cmd h ht (SIM_mono (S_clr h.1 p1) (by omega) (by omega)) (fun _ _ k => (kx1 k).symm)
theorem F_addOrder {t : Nat} {u : XT} {v : MT} (p1 p2 p3 : Int32) (h : RLx t u v) (ht : t < 512) : ∃ (rx : (Except String Int32) × XT) (rm : Int32 × MT), gX12_addOrder u p1 p2 p3 = some rx ∧ gX13_addOrder v p1 p2 p3 = some rm ∧ AG ["java/lang/IllegalArgumentException", "java/lang/IllegalStateException"] rx.1 (mt_th rm.2) (fun w => w = rm.1) ∧ RLx (t + 1) rx.2 rm.2 := by
  rw [un_addOrder, um_addOrder]
  exact F_cmd h ht (SIM_mono (S_take h.1 (by omega) p1 p2 p3) (by omega) (by omega)) (fun _ _ _ => rfl)
theorem F_cancel {t : Nat} {u : XT} {v : MT} (p1 : Int32) (h : RLx t u v) (ht : t < 512) : ∃ (rx : (Except String Int32) × XT) (rm : Int32 × MT), gX12_cancel u p1 = some rx ∧ gX13_cancel v p1 = some rm ∧ AG ["java/util/NoSuchElementException"] rx.1 (mt_th rm.2) (fun w => w = rm.1) ∧ RLx (t + 1) rx.2 rm.2 := by
  rw [un_cancel, um_cancel]
  exact F_cmd h ht (SIM_mono (S_can h.1 p1) (by omega) (by omega)) (fun _ _ k => (kx1 k).symm)
theorem F_fill {t : Nat} {u : XT} {v : MT} (p1 : Int32) (h : RLx t u v) (ht : t < 512) : ∃ (rx : (Except String Int32) × XT) (rm : Int32 × MT), gX12_fill u p1 = some rx ∧ gX13_fill v p1 = some rm ∧ AG ["java/util/NoSuchElementException", "java/lang/UnsupportedOperationException"] rx.1 (mt_th rm.2) (fun w => w = rm.1) ∧ RLx (t + 1) rx.2 rm.2 := by
  rw [un_fill, um_fill]
  exact F_cmd h ht (SIM_mono (S_fil h.1 p1) (by omega) (by omega)) (fun _ _ _ => rfl)
theorem F_fillDue {t : Nat} {u : XT} {v : MT} (p1 : Int32) (h : RLx t u v) (ht : t < 512) : ∃ (rx : (Except String Int32) × XT) (rm : Int32 × MT), gX12_fillDue u p1 = some rx ∧ gX13_fillDue v p1 = some rm ∧ AG ["java/lang/IllegalArgumentException"] rx.1 (mt_th rm.2) (fun w => w = rm.1) ∧ RLx (t + 1) rx.2 rm.2 := by
  rw [un_fillDue, um_fillDue]
  exact F_cmd h ht (SIM_mono (S_due h.1 p1) (by omega) (by omega)) (fun _ _ k => (kx1 k).symm)
theorem F_setKerf {t : Nat} {u : XT} {v : MT} (p1 : Int32) (h : RLx t u v) (ht : t < 512) : ∃ (rx : (Except String Int32) × XT) (rm : Int32 × MT), gX12_setKerf u p1 = some rx ∧ gX13_setKerf v p1 = some rm ∧ AG ["java/lang/IllegalArgumentException"] rx.1 (mt_th rm.2) (fun w => w = rm.1) ∧ RLx (t + 1) rx.2 rm.2 := by
  rw [un_setKerf, um_setKerf]
  exact F_cmd h ht (SIM_mono (S_krf h.1 p1) (by omega) (by omega)) (fun _ _ k => (kx1 k).symm)
theorem F_setScrapLimit {t : Nat} {u : XT} {v : MT} (p1 : Int32) (h : RLx t u v) (ht : t < 512) : ∃ (rx : (Except String Int32) × XT) (rm : Int32 × MT), gX12_setScrapLimit u p1 = some rx ∧ gX13_setScrapLimit v p1 = some rm ∧ AG ["java/lang/IllegalArgumentException"] rx.1 (mt_th rm.2) (fun w => w = rm.1) ∧ RLx (t + 1) rx.2 rm.2 := by
  rw [un_setScrapLimit, um_setScrapLimit]
  exact F_cmd h ht (SIM_mono (S_lim h.1 p1) (by omega) (by omega)) (fun _ _ k => (kx1 k).symm)
theorem F_setRule {t : Nat} {u : XT} {v : MT} (p1 : Int32) (h : RLx t u v) (ht : t < 512) : ∃ (rx : (Except String Int32) × XT) (rm : Int32 × MT), gX12_setRule u p1 = some rx ∧ gX13_setRule v p1 = some rm ∧ AG ["java/lang/IllegalArgumentException"] rx.1 (mt_th rm.2) (fun w => w = rm.1) ∧ RLx (t + 1) rx.2 rm.2 := by
  have hr : isC (wt_r (xt_w u)) = true := by
    obtain ⟨n, s, m, o, c, k, l, r, ac, N, M, L, K, cM, cL, T, oN, oM, oL, oD, W, D, A, e, h1, h2, h3, h4, h5, h6⟩ := h.1
    rw [e]; exact isC_r h5.2.2.2.2.2.2
  have hch : (((mt_w v) 7).toUInt32 % 65536).toInt32 = (mt_w v) 7 := by
    obtain ⟨n, s, m, o, c, k, l, r, ac, N, M, L, K, cM, cL, T, oN, oM, oL, oD, W, D, A, e, h1, h2, h3, h4, h5, h6⟩ := h.1
    rw [h5.2.2.1]
    rcases h5.2.2.2.2.2.2 with rfl | rfl | rfl <;> decide
  have e1 : gX12_setRule u p1 = (hprep u).bind fun S => (hX11_changeRule (xt_w u) p1).bind fun z => fin u S z := by
    unfold gX12_setRule fX12_setRule hX11_changeRule
    show ((hprep u).bind _).bind _ = (hprep u).bind _
    cases hprep u with
    | none => rfl
    | some S =>
      rw [ob, ob]
      unfold fX11_changeRule
      cases fX12_isRule p1 with
      | none => rfl
      | some z =>
        rw [ob]
        by_cases g : z = 0
        · rw [if_pos g]; rfl
        · rw [if_neg g]
          by_cases g2 : isC p1 = true
          · rw [gd_t g2, gd_t hr, ob, ob]
            show ((fX3_commit (xt_hn u) (xt_hc u)).bind _).bind _ = (fX3_commit (xt_hn u) (xt_hc u)).bind _
            cases fX3_commit (xt_hn u) (xt_hc u) with
            | none => rfl
            | some c => rw [ob, ob, gd_t hr]; rfl
          · unfold gd; rw [if_neg g2]; rfl
  have e2 : gX13_setRule v p1 = mfin v (fun _ => 1) (fX13_notRule p1) (fX13_sets (mt_w v) 7 p1) := by
    unfold gX13_setRule fX13_setRule mfin
    cases fX13_notRule p1 with
    | none => rfl
    | some z1 =>
      rw [ob, ob]
      by_cases g : z1 = 0
      · rw [if_pos g, if_pos g]
        cases fX13_remembers (mt_ch v) (mt_fc v) (mt_w v) (mt_un v) (mt_be v) with
        | none => rfl
        | some z4 =>
          rw [ob, ob]
          show (Option.bind (some ((mt_w v) 7, upd (mt_w v) 7 p1)) _).bind _ = Option.bind (some ((mt_w v) 7, upd (mt_w v) 7 p1)) _
          rw [ob, ob, ob]
          dsimp only
          rw [hch]
      · rw [if_neg g, if_neg g]; rfl
  rw [e1, e2]
  exact F_cmd h ht (SIM_mono (S_rul h.1 p1) (by omega) (by omega)) (fun _ _ k => (kx1 k).symm)
