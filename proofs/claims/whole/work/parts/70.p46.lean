/-! pure layer: run, on both sides -/
abbrev RAW : Type := ((Except String Int32) × Int32 × Int32 × Int32 × Int32 × Int32 × Int32 × Int32 × (Nat → Int32) × Int32 × (Nat → Int32) × Int32 × (Nat → Int32) × Int32 × (Nat → Int32) × Int32 × (Nat → Int32) × Int32 × (Nat → Int32) × Int32 × (Nat → Int32) × Int32 × Int32 × (Nat → Int32) × Int32 × (Nat → Int32) × Int32 × (Nat → Int32) × Int32 × (Nat → Int32) × Int32 × Int32 × (Nat → Int32) × Int32 × (Nat → Int32) × Int32 × (Nat → Int32) × Int32 × Int32 × (Nat → WT) × Int32 × Int32 × Int32 × (Nat → CT))
abbrev pkx (u : XT) : RAW → Option ((Except String Int32) × XT) := fun r => some (r.1, ((xt_i u), r.2.1, r.2.2.1, (r.2.2.2.1, r.2.2.2.2.1, r.2.2.2.2.2.1, r.2.2.2.2.2.2.1, r.2.2.2.2.2.2.2.1, r.2.2.2.2.2.2.2.2.1, r.2.2.2.2.2.2.2.2.2.1, r.2.2.2.2.2.2.2.2.2.2.1, r.2.2.2.2.2.2.2.2.2.2.2.1, r.2.2.2.2.2.2.2.2.2.2.2.2.1, r.2.2.2.2.2.2.2.2.2.2.2.2.2.1, r.2.2.2.2.2.2.2.2.2.2.2.2.2.2.1, r.2.2.2.2.2.2.2.2.2.2.2.2.2.2.2.1, r.2.2.2.2.2.2.2.2.2.2.2.2.2.2.2.2.1, r.2.2.2.2.2.2.2.2.2.2.2.2.2.2.2.2.2.1, r.2.2.2.2.2.2.2.2.2.2.2.2.2.2.2.2.2.2.1, r.2.2.2.2.2.2.2.2.2.2.2.2.2.2.2.2.2.2.2.1, r.2.2.2.2.2.2.2.2.2.2.2.2.2.2.2.2.2.2.2.2.1, r.2.2.2.2.2.2.2.2.2.2.2.2.2.2.2.2.2.2.2.2.2.1, r.2.2.2.2.2.2.2.2.2.2.2.2.2.2.2.2.2.2.2.2.2.2.1, r.2.2.2.2.2.2.2.2.2.2.2.2.2.2.2.2.2.2.2.2.2.2.2.1, r.2.2.2.2.2.2.2.2.2.2.2.2.2.2.2.2.2.2.2.2.2.2.2.2.1, r.2.2.2.2.2.2.2.2.2.2.2.2.2.2.2.2.2.2.2.2.2.2.2.2.2.1, r.2.2.2.2.2.2.2.2.2.2.2.2.2.2.2.2.2.2.2.2.2.2.2.2.2.2.1, r.2.2.2.2.2.2.2.2.2.2.2.2.2.2.2.2.2.2.2.2.2.2.2.2.2.2.2.1, r.2.2.2.2.2.2.2.2.2.2.2.2.2.2.2.2.2.2.2.2.2.2.2.2.2.2.2.2.1, r.2.2.2.2.2.2.2.2.2.2.2.2.2.2.2.2.2.2.2.2.2.2.2.2.2.2.2.2.2.1, r.2.2.2.2.2.2.2.2.2.2.2.2.2.2.2.2.2.2.2.2.2.2.2.2.2.2.2.2.2.2.1, r.2.2.2.2.2.2.2.2.2.2.2.2.2.2.2.2.2.2.2.2.2.2.2.2.2.2.2.2.2.2.2.1, r.2.2.2.2.2.2.2.2.2.2.2.2.2.2.2.2.2.2.2.2.2.2.2.2.2.2.2.2.2.2.2.2.1, r.2.2.2.2.2.2.2.2.2.2.2.2.2.2.2.2.2.2.2.2.2.2.2.2.2.2.2.2.2.2.2.2.2.1, r.2.2.2.2.2.2.2.2.2.2.2.2.2.2.2.2.2.2.2.2.2.2.2.2.2.2.2.2.2.2.2.2.2.2.1, r.2.2.2.2.2.2.2.2.2.2.2.2.2.2.2.2.2.2.2.2.2.2.2.2.2.2.2.2.2.2.2.2.2.2.2.1, r.2.2.2.2.2.2.2.2.2.2.2.2.2.2.2.2.2.2.2.2.2.2.2.2.2.2.2.2.2.2.2.2.2.2.2.2.1), xt_v u, r.2.2.2.2.2.2.2.2.2.2.2.2.2.2.2.2.2.2.2.2.2.2.2.2.2.2.2.2.2.2.2.2.2.2.2.2.2.1, r.2.2.2.2.2.2.2.2.2.2.2.2.2.2.2.2.2.2.2.2.2.2.2.2.2.2.2.2.2.2.2.2.2.2.2.2.2.2.1, r.2.2.2.2.2.2.2.2.2.2.2.2.2.2.2.2.2.2.2.2.2.2.2.2.2.2.2.2.2.2.2.2.2.2.2.2.2.2.2.1, (xt_lt u), (xt_lpn u), (xt_lpf u), r.2.2.2.2.2.2.2.2.2.2.2.2.2.2.2.2.2.2.2.2.2.2.2.2.2.2.2.2.2.2.2.2.2.2.2.2.2.2.2.2.1, r.2.2.2.2.2.2.2.2.2.2.2.2.2.2.2.2.2.2.2.2.2.2.2.2.2.2.2.2.2.2.2.2.2.2.2.2.2.2.2.2.2.1, r.2.2.2.2.2.2.2.2.2.2.2.2.2.2.2.2.2.2.2.2.2.2.2.2.2.2.2.2.2.2.2.2.2.2.2.2.2.2.2.2.2.2.1, (xt_pt u), r.2.2.2.2.2.2.2.2.2.2.2.2.2.2.2.2.2.2.2.2.2.2.2.2.2.2.2.2.2.2.2.2.2.2.2.2.2.2.2.2.2.2.2, (xt_bm u), (xt_bn u), (xt_bq u), (xt_bv u)))
theorem exec_L {l n : Nat} {bu : Nat → Int32} {K : Nat → CT} {S : Nat → WT} {e f hn hc pl pp : Int32} (hl : l ≤ 60) (h12 : n ≤ 12) : ∀ (d i a b fu fm : Nat) (w : WT) (x nu : Nat → Int32) (so : Int32), PG l bu K d i a → i + d = n → WR b w x → b + d < 90000 → d < fu → d + 1 < fm →
    (∃ (w' : WT) (e' : Nat) (so' : Int32) (nu' x' : Nat → Int32), hL e f hn hc S pl pp (nI n) K fu (nI i) w = ((fX3_commit hn hc).bind fun c => some (raw (.ok (nI n)) e f w' c.1 c.2 S pl pp (nI n) K)) ∧ fX13_doesAll_L12 (nI l) bu fm 1 (nI a) so (nI i) x nu = some (1, nI e', so', nI n, x', nu') ∧ WR (b + d) w' x') ∨
    (∃ (i' : Nat) (w' : WT) (e' : Nat) (so' : Int32) (nu' x' : Nat → Int32), i' < n ∧ hL e f hn hc S pl pp (nI n) K fu (nI i) w = ((hab hn S w').bind fun z => some (raw (.error "java/lang/UnsupportedOperationException") e (nI i') z hn hc S pl pp (nI n) K)) ∧ fX13_doesAll_L12 (nI l) bu fm 1 (nI a) so (nI i) x nu = some (0, nI e', so', nI i', x', nu') ∧ WR (b + d) w' x') := by
  intro d
  induction d with
  | zero =>
    intro i a b fu fm w x nu so hP
    exact (show False from hP).elim
  | succ d ih =>
    intro i a b fu fm w x nu so hP hi hw hb hfu hfm
    obtain ⟨fu, rfl⟩ : ∃ q, fu = q + 2 := ⟨fu - 2, by omega⟩
    obtain ⟨fm, rfl⟩ : ∃ q, fm = q + 2 := ⟨fm - 2, by omega⟩
    obtain ⟨e1, k, A0, A1, A2, hk, he, hc', hr, ht⟩ := hP
    obtain ⟨so1, nu1, r1, r2⟩ := hr nu
    rcases EXE hw (by omega) hk (by omega) hc' r2 with ⟨q, s1, s2, s3⟩ | ⟨v, w', x', s1, s2, s3, s4⟩
    · refine Or.inr ⟨i, w, e1, so1, nu1, x, by omega, hL_fail (by omega) h12 s1, ?_, WR_mono hw (by omega) (by omega)⟩
      rw [fX13_doesAll_L12, if_neg (show ¬ (1 : Int32) = 0 by decide), r1, ob]
      dsimp only
      rw [s2, ob, if_neg s3]
    · have eM : fX13_doesAll_L12 (nI l) bu (fm + 2) 1 (nI a) so (nI i) x nu = fX13_doesAll_L12 (nI l) bu (fm + 1) (if atc l bu e1 59 then (1, nI (e1 + 1)) else (0, nI e1) : Int32 × Int32).1 (if atc l bu e1 59 then (1, nI (e1 + 1)) else (0, nI e1) : Int32 × Int32).2 so1 (nI (i + 1)) x' nu1 := by
        rw [fX13_doesAll_L12, if_neg (show ¬ (1 : Int32) = 0 by decide), r1, ob]
        dsimp only
        rw [s2, ob, if_pos (show (0 : Int32) = 0 from rfl), s3, ob]
        dsimp only
        rw [m_rd1 hl (by omega) (by decide), ob, nI_1]
      have hw' : WR (b + 1 + d) w' x' := WR_mono s4 (by omega) (by omega)
      rw [hL_step (by omega) h12 s1, eM, show b + (d + 1) = b + 1 + d by omega]
      rcases ht with ⟨rfl, ht⟩ | ⟨ht, hP'⟩
      · left
        refine ⟨w', e1, so1, nu1, x', ?_, ?_, hw'⟩
        · rw [show i + 1 = n by omega]; exact hL_end
        · rw [if_neg ht]
          dsimp only
          rw [fX13_doesAll_L12, if_pos (show (0 : Int32) = 0 from rfl), show i + 1 = n by omega]
      · rw [if_pos ht]
        exact ih (i + 1) (e1 + 1) (b + 1) (fu + 1) (fm + 1) w' x' nu1 so1 hP' (by omega) s4 (by omega) (by omega) (by omega)
theorem kxIU : kx ["java/lang/IllegalArgumentException", "java/lang/UnsupportedOperationException"] (.error "java/lang/UnsupportedOperationException" : Except String Int32) = some 2 := by decide
theorem F_run : ST_run RLx := by
  intro t u v ht h
  obtain ⟨h1, h2, ⟨hn, hc, fc, a1, a2, a3, a4, a5⟩, h4, h5, ⟨l, p1, p2, p3, p4⟩, h7⟩ := h
  have hT : TX l (xt_pt u) (mt_bu v) := ⟨p1, p4⟩
  obtain ⟨e, n, uK', so', nu', he, h12, hp⟩ := parse_eq hT (xt_pK u) (mt_so v) (mt_nu v)
  have hP0 : PR 0 (xt_pt u) 0 (mt_bu v) := ⟨0, by omega, rfl, rfl, fun j hj => absurd hj (Nat.not_lt_zero _)⟩
  rcases hp with ⟨q1, q2⟩ | ⟨q1, q2, q3⟩
  · have f1 : gX12_run u = some (.error "java/lang/IllegalArgumentException", (xt_i u, nI e, xt_f u, xt_w u, xt_v u, xt_hn u, xt_hc u, xt_hS u, xt_lt u, xt_lpn u, xt_lpf u, 0, nI e, nI n, xt_pt u, uK', xt_bm u, xt_bn u, xt_bq u, xt_bv u)) := by
      unfold gX12_run fX12_run
      rw [p2, q1, ob, if_neg (show ¬ nI e = -1 from oI_m1 (i := e) (by omega))] <;> rfl
    have f2 : gX13_run v = some (0, (1, mt_ch v, mt_fc v, mt_sv v, mt_ll v, 0, nI e, nI e, mt_fa v, so', mt_dn v, mt_w v, mt_un v, mt_sr v, mt_be v, mt_bs v, mt_ln v, mt_bu v, nu')) := by
      unfold gX13_run fX13_run
      rw [p3, q2, ob, if_pos (show (0 : Int32) = 0 from rfl)] <;> rfl
    exact ⟨_, _, f1, f2, ⟨kxI, show (1 : Int32) ≠ 0 by decide⟩, WR_mono h1 (by omega) (by omega), VR_mono h2 (by omega) (by omega), ⟨hn, hc, fc, a1, a2, a3, a4, HR_mono a5 (by omega) (by omega)⟩, ⟨rfl, Or.inr ⟨e, by omega, rfl⟩⟩, h5, hP0, h7⟩
  · obtain ⟨w2, e1, e2⟩ := H_prep h1 a1 a5.1
    have f0 : gX12_run u = (hL (xt_e u) (xt_f u) (nI hn) (nI hc) (va_up (xt_hS u) hn w2) 0 (nI e) (nI n) uK' 13 (nI 0) (xt_w u)).bind (pkx u) := by
      unfold hprep at e1
      unfold gX12_run fX12_run
      rw [p2, q1, ob, if_pos (show (-1 : Int32) = -1 from rfl), e1, ob, a1, a2] <;> rfl
    have k5 : WR (12 * (t + 1)) ((va_up (xt_hS u) hn w2) hn) (mt_w v) := by rw [va_us]; exact WR_mono e2 (by omega) (by omega)
    have hH := HR_mono (HR_prep (w := w2) a5) (show 12 * t ≤ 12 * (t + 1) by omega) (by omega)
    rcases exec_L (S := (va_up (xt_hS u) hn w2)) (e := xt_e u) (f := xt_f u) (hn := nI hn) (hc := nI hc) (pl := 0) (pp := nI e) p1 h12 n 0 0 (12 * t) 13 FU (xt_w u) (mt_w v) nu' so' q3 (Nat.zero_add n) h1 (by omega) (by omega) (FU_lt (by omega)) with ⟨w', e', so2, nu2, x', k1, k2, k3⟩ | ⟨i', w', e', so2, nu2, x', hi', k1, k2, k3⟩
    · obtain ⟨hn', hc', fc', un', r1, r2, r3⟩ := HR_kp (be := cpy (mt_be v) (mt_w v) 201) hH k5 (fun j hj => if_pos hj)
      have f1 : gX12_run u = some (.ok (nI n), (xt_i u, xt_e u, xt_f u, w', xt_v u, nI hn', nI hc', (va_up (xt_hS u) hn w2), xt_lt u, xt_lpn u, xt_lpf u, 0, nI e, nI n, xt_pt u, uK', xt_bm u, xt_bn u, xt_bq u, xt_bv u)) := by
        rw [f0, k1, r1] <;> rfl
      have f2 : gX13_run v = some (nI n, (0, nI hc', nI fc', mt_sv v, mt_ll v, 0, nI e', mt_ea v, mt_fa v, so2, nI n, x', un', mt_sr v, cpy (mt_be v) (mt_w v) 201, mt_bs v, mt_ln v, mt_bu v, nu2)) := by
        unfold gX13_run fX13_run fX13_doesAll
        rw [p3, q2, ob, if_neg (show ¬ (1 : Int32) = 0 by decide), m_cp, ob]
        dsimp only
        rw [show fX13_doesAll_L12 (nI l) (mt_bu v) FU 1 0 so' 0 (mt_w v) nu' = _ from k2, ob, if_neg (show ¬ (1 : Int32) = 0 by decide), a3, a4, r2, ob] <;> rfl
      exact ⟨_, _, f1, f2, ⟨rfl, rfl⟩, WR_mono k3 (by omega) (by omega), VR_mono h2 (by omega) (by omega), ⟨hn', hc', fc', rfl, rfl, rfl, rfl, r3⟩, h4, h5, hP0, h7⟩
    · obtain ⟨w3, g1, g2⟩ := W_cpy k5 (wt_sNn w') (wt_sNf w') (wt_sMn w') (wt_sMf w') (wt_sLn w') (wt_sLf w') (wt_sKn w') (wt_sKf w') (wt_cMn w') (wt_cMf w') (wt_cLn w') (wt_cLf w') (wt_cTn w') (wt_cTf w') (wt_oNn w') (wt_oNf w') (wt_oMn w') (wt_oMf w') (wt_oLn w') (wt_oLf w') (wt_oDn w') (wt_oDf w') (wt_aWn w') (wt_aWf w') (wt_aDn w') (wt_aDf w') (wt_aLn w') (wt_aLf w')
      have f1 : gX12_run u = some (.error "java/lang/UnsupportedOperationException", (xt_i u, xt_e u, nI i', w3, xt_v u, nI hn, nI hc, (va_up (xt_hS u) hn w2), xt_lt u, xt_lpn u, xt_lpf u, 0, nI e, nI n, xt_pt u, uK', xt_bm u, xt_bn u, xt_bq u, xt_bv u)) := by
        rw [f0, k1]
        unfold hab fX3_abandon
        rw [if_neg (nI_pos (by have := a5.1; omega)), if_neg (nI_ge a5.1 (by omega)), gd_t (inR_n a5.1 (by omega)), gd_t (inR_n a5.1 (by omega)), nI_clamp (by have := a5.1; omega), g1] <;> rfl
      have f2 : gX13_run v = some (0, (2, mt_ch v, mt_fc v, mt_sv v, mt_ll v, 0, nI e', mt_ea v, nI i', so2, nI i', cpy x' (cpy (mt_be v) (mt_w v) 201) 201, mt_un v, mt_sr v, cpy (mt_be v) (mt_w v) 201, mt_bs v, mt_ln v, mt_bu v, nu2)) := by
        unfold gX13_run fX13_run fX13_doesAll
        rw [p3, q2, ob, if_neg (show ¬ (1 : Int32) = 0 by decide), m_cp, ob]
        dsimp only
        rw [show fX13_doesAll_L12 (nI l) (mt_bu v) FU 1 0 so' 0 (mt_w v) nu' = _ from k2, ob, if_pos (show (0 : Int32) = 0 from rfl), m_gb, ob] <;> rfl
      have hx : ∀ j, j < 201 → cpy x' (cpy (mt_be v) (mt_w v) 201) 201 j = mt_w v j := fun j hj => (if_pos hj).trans (if_pos hj)
      exact ⟨_, _, f1, f2, ⟨kxIU, show (2 : Int32) ≠ 0 by decide⟩, WR_fr g2 hx, VR_mono h2 (by omega) (by omega), ⟨hn, hc, fc, rfl, rfl, a3, a4, hH⟩, h4, ⟨rfl, Or.inr ⟨i', by omega, rfl⟩⟩, hP0, h7⟩
