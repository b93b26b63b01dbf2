/-! pure layer: the relation of the two states; commands at the face -/
def PR (pl : Int32) (pt : Nat → Int32) (bl : Int32) (bu : Nat → Int32) : Prop := ∃ l : Nat, l ≤ 60 ∧ pl = nI l ∧ bl = nI l ∧ ∀ j, j < l → pt j = bu j ∧ isC (bu j) = true
def LR (bn : Int32) (bq : Nat) (bv : Nat → Int32) (ll : Int32) (ln : Nat → Int32) : Prop := ∃ l : Nat, l ≤ 144 ∧ bn = nI l ∧ ll = nI l ∧ (bq = 16 ∨ bq = 34 ∨ bq = 70 ∨ bq = 142 ∨ bq = 286) ∧ l ≤ bq ∧ (∀ j, j < bq → ∃ a : Nat, a < 128 ∧ bv j = nI a) ∧ ∀ j, j < l → ln j = bv j
def QR (e ea : Int32) : Prop := e = ea ∧ (ea = -1 ∨ ∃ a : Nat, a < 1000 ∧ ea = nI a)
def VR (b : Nat) (i sv : Int32) (w : WT) (sr : Nat → Int32) : Prop := (i = 0 ∧ sv = 0) ∨ (i = 1 ∧ sv = 1 ∧ WR b w sr)
def RLx (t : Nat) (u : XT) (v : MT) : Prop :=
  WR (12 * t) (xt_w u) (mt_w v) ∧ VR (12 * t) (xt_i u) (mt_sv v) (xt_v u) (mt_sr v) ∧
  (∃ hn hc fc : Nat, xt_hn u = nI hn ∧ xt_hc u = nI hc ∧ mt_ch v = nI hc ∧ mt_fc v = nI fc ∧ HR (12 * t) hn hc fc (xt_hS u) (mt_un v)) ∧
  QR (xt_e u) (mt_ea v) ∧ QR (xt_f u) (mt_fa v) ∧ PR (xt_pl u) (xt_pt u) (mt_bl v) (mt_bu v) ∧ LR (xt_bn u) (xt_bq u) (xt_bv u) (mt_ll v) (mt_ln v)
theorem VR_mono {b b' : Nat} {i sv : Int32} {w : WT} {sr : Nat → Int32} (h : VR b i sv w sr) (hb : b ≤ b') (hb' : b' < 100000) : VR b' i sv w sr := by
  rcases h with h | ⟨h1, h2, h3⟩
  · exact Or.inl h
  · exact Or.inr ⟨h1, h2, WR_mono h3 hb hb'⟩
theorem RLx_mono {t : Nat} {u : XT} {v : MT} (h : RLx t u v) (ht : t < 512) : RLx (t + 1) u v := by
  obtain ⟨h1, h2, ⟨hn, hc, fc, a1, a2, a3, a4, a5⟩, h4⟩ := h
  exact ⟨WR_mono h1 (by omega) (by omega), VR_mono h2 (by omega) (by omega), ⟨hn, hc, fc, a1, a2, a3, a4, HR_mono a5 (by omega) (by omega)⟩, h4⟩
theorem RLx_th {t : Nat} {u : XT} {v : MT} (a : Int32) (h : RLx t u v) (ht : t < 512) : RLx (t + 1) u (a, v.2) := RLx_mono h ht
abbrev hprep (u : XT) : Option (Nat → WT) := fX3_prepare (xt_hn u) (xt_hS u) (wt_k (xt_w u)) (wt_l (xt_w u)) (wt_r (xt_w u)) (wt_sx (xt_w u)) (wt_sNn (xt_w u)) (wt_sNf (xt_w u)) (wt_sMn (xt_w u)) (wt_sMf (xt_w u)) (wt_sLn (xt_w u)) (wt_sLf (xt_w u)) (wt_sKn (xt_w u)) (wt_sKf (xt_w u)) (wt_cMn (xt_w u)) (wt_cMf (xt_w u)) (wt_cLn (xt_w u)) (wt_cLf (xt_w u)) (wt_cTn (xt_w u)) (wt_cTf (xt_w u)) (wt_ox (xt_w u)) (wt_oNn (xt_w u)) (wt_oNf (xt_w u)) (wt_oMn (xt_w u)) (wt_oMf (xt_w u)) (wt_oLn (xt_w u)) (wt_oLf (xt_w u)) (wt_oDn (xt_w u)) (wt_oDf (xt_w u)) (wt_ac (xt_w u)) (wt_aWn (xt_w u)) (wt_aWf (xt_w u)) (wt_aDn (xt_w u)) (wt_aDf (xt_w u)) (wt_aLn (xt_w u)) (wt_aLf (xt_w u))
def fin (u : XT) (S : Nat → WT) (z : (Except String Int32) × WT) : Option ((Except String Int32) × XT) := match z.1 with
  | .error e => some (.error e, (xt_i u, xt_e u, xt_f u, z.2, xt_v u, xt_hn u, xt_hc u, S, xt_lt u, xt_lpn u, xt_lpf u, xt_pl u, xt_pp u, xt_pc u, xt_pt u, xt_pK u, xt_bm u, xt_bn u, xt_bq u, xt_bv u))
  | .ok a => (fX3_commit (xt_hn u) (xt_hc u)).bind fun c => some (.ok a, (xt_i u, xt_e u, xt_f u, z.2, xt_v u, c.1, c.2, S, xt_lt u, xt_lpn u, xt_lpf u, xt_pl u, xt_pp u, xt_pc u, xt_pt u, xt_pK u, xt_bm u, xt_bn u, xt_bq u, xt_bv u))
def mfin (v : MT) (q : Int32 → Int32) (no : Option Int32) (ex : Option (Int32 × (Nat → Int32))) : Option (Int32 × MT) := no.bind fun z1 => if z1 = 0 then
    (fX13_remembers (mt_ch v) (mt_fc v) (mt_w v) (mt_un v) (mt_be v)).bind fun z4 => ex.bind fun z6 => some (z6.1, (0, z4.1, z4.2.1, mt_sv v, mt_ll v, mt_bl v, mt_ba v, mt_ea v, mt_fa v, mt_so v, mt_dn v, z6.2, z4.2.2.1, mt_sr v, z4.2.2.2, mt_bs v, mt_ln v, mt_bu v, mt_nu v))
  else some (0, (q z1, mt_ch v, mt_fc v, mt_sv v, mt_ll v, mt_bl v, mt_ba v, mt_ea v, mt_fa v, mt_so v, mt_dn v, mt_w v, mt_un v, mt_sr v, mt_be v, mt_bs v, mt_ln v, mt_bu v, mt_nu v))
theorem un_addSpool (u : XT) (p1 : Int32) (p2 : Int32) : gX12_addSpool u p1 p2 = (hprep u).bind fun S => (hX11_windSpool (xt_w u) p1 p2).bind fun z => fin u S z := by
  unfold gX12_addSpool fX12_addSpool hX11_windSpool
  show ((hprep u).bind _).bind _ = (hprep u).bind _
  cases hprep u with
  | none => rfl
  | some S =>
    rw [ob, ob]
    generalize e : fX11_windSpool (wt_sx (xt_w u)) (wt_sNn (xt_w u)) (wt_sNf (xt_w u)) (wt_sMn (xt_w u)) (wt_sMf (xt_w u)) (wt_sLn (xt_w u)) (wt_sLf (xt_w u)) (wt_sKn (xt_w u)) (wt_sKf (xt_w u)) (wt_aWn (xt_w u)) (wt_aWf (xt_w u)) p1 p2 = r
    cases r with
    | none => rfl
    | some r =>
      rw [ob, ob, ob]
      obtain ⟨r1, r2⟩ := r
      cases r1 with
      | error e => rfl
      | ok a =>
        show ((fX3_commit (xt_hn u) (xt_hc u)).bind _).bind _ = (fX3_commit (xt_hn u) (xt_hc u)).bind _
        cases fX3_commit (xt_hn u) (xt_hc u) <;> rfl
theorem um_addSpool (v : MT) (p1 : Int32) (p2 : Int32) : gX13_addSpool v p1 p2 = mfin v (fun z => z) (fX13_notSpool (mt_w v) p1 p2) (fX13_addsSpool (mt_w v) p1 p2) := by
  unfold gX13_addSpool fX13_addSpool mfin
  cases fX13_notSpool (mt_w v) p1 p2 with
  | none => rfl
  | some z1 =>
    rw [ob, ob]
    by_cases h : z1 = 0
    · rw [if_pos h, if_pos h]
      cases fX13_remembers (mt_ch v) (mt_fc v) (mt_w v) (mt_un v) (mt_be v) with
      | none => rfl
      | some z4 =>
        rw [ob, ob]
        cases fX13_addsSpool (mt_w v) p1 p2 <;> rfl
    · rw [if_neg h, if_neg h]; rfl
theorem un_retire (u : XT) (p1 : Int32) : gX12_retire u p1 = (hprep u).bind fun S => (hX11_retireSpool (xt_w u) p1).bind fun z => fin u S z := by
  unfold gX12_retire fX12_retire hX11_retireSpool
  show ((hprep u).bind _).bind _ = (hprep u).bind _
  cases hprep u with
  | none => rfl
  | some S =>
    rw [ob, ob]
    generalize e : fX11_retireSpool (wt_sNn (xt_w u)) (wt_sNf (xt_w u)) (wt_sMn (xt_w u)) (wt_sMf (xt_w u)) (wt_sLn (xt_w u)) (wt_sLf (xt_w u)) (wt_sKn (xt_w u)) (wt_sKf (xt_w u)) (wt_cMn (xt_w u)) (wt_cMf (xt_w u)) (wt_cLn (xt_w u)) (wt_cLf (xt_w u)) (wt_cTn (xt_w u)) (wt_cTf (xt_w u)) p1 = r
    cases r with
    | none => rfl
    | some r =>
      rw [ob, ob, ob]
      obtain ⟨r1, r2⟩ := r
      cases r1 with
      | error e => rfl
      | ok a =>
        show ((fX3_commit (xt_hn u) (xt_hc u)).bind _).bind _ = (fX3_commit (xt_hn u) (xt_hc u)).bind _
        cases fX3_commit (xt_hn u) (xt_hc u) <;> rfl
theorem um_retire (v : MT) (p1 : Int32) : gX13_retire v p1 = mfin v (fun _ => 1) (fX13_notRetire (mt_w v) p1) (fX13_retires (mt_w v) p1) := by
  unfold gX13_retire fX13_retire mfin
  cases fX13_notRetire (mt_w v) p1 with
  | none => rfl
  | some z1 =>
    rw [ob, ob]
    by_cases h : z1 = 0
    · rw [if_pos h, if_pos h]
      cases fX13_remembers (mt_ch v) (mt_fc v) (mt_w v) (mt_un v) (mt_be v) with
      | none => rfl
      | some z4 =>
        rw [ob, ob]
        cases fX13_retires (mt_w v) p1 <;> rfl
    · rw [if_neg h, if_neg h]; rfl
theorem un_throwScraps (u : XT) (p1 : Int32) : gX12_throwScraps u p1 = (hprep u).bind fun S => (hX11_clearScraps (xt_w u) p1).bind fun z => fin u S z := by
  unfold gX12_throwScraps fX12_throwScraps hX11_clearScraps
  show ((hprep u).bind _).bind _ = (hprep u).bind _
  cases hprep u with
  | none => rfl
  | some S =>
    rw [ob, ob]
    generalize e : fX11_clearScraps (wt_cMn (xt_w u)) (wt_cMf (xt_w u)) (wt_cLn (xt_w u)) (wt_cLf (xt_w u)) (wt_cTn (xt_w u)) (wt_cTf (xt_w u)) p1 = r
    cases r with
    | none => rfl
    | some r =>
      rw [ob, ob, ob]
      obtain ⟨r1, r2⟩ := r
      cases r1 with
      | error e => rfl
      | ok a =>
        show ((fX3_commit (xt_hn u) (xt_hc u)).bind _).bind _ = (fX3_commit (xt_hn u) (xt_hc u)).bind _
        cases fX3_commit (xt_hn u) (xt_hc u) <;> rfl
theorem um_throwScraps (v : MT) (p1 : Int32) : gX13_throwScraps v p1 = mfin v (fun _ => 1) (fX13_notClear p1) (fX13_clears (mt_w v) (p1 - 97)) := by
  unfold gX13_throwScraps fX13_throwScraps mfin
  cases fX13_notClear p1 with
  | none => rfl
  | some z1 =>
    rw [ob, ob]
    by_cases h : z1 = 0
    · rw [if_pos h, if_pos h]
      cases fX13_remembers (mt_ch v) (mt_fc v) (mt_w v) (mt_un v) (mt_be v) with
      | none => rfl
      | some z4 =>
        rw [ob, ob]
        cases fX13_clears (mt_w v) (p1 - 97) <;> rfl
    · rw [if_neg h, if_neg h]; rfl
theorem un_addOrder (u : XT) (p1 : Int32) (p2 : Int32) (p3 : Int32) : gX12_addOrder u p1 p2 p3 = (hprep u).bind fun S => (hX11_takeOrder (xt_w u) p1 p2 p3).bind fun z => fin u S z := by
  unfold gX12_addOrder fX12_addOrder hX11_takeOrder
  show ((hprep u).bind _).bind _ = (hprep u).bind _
  cases hprep u with
  | none => rfl
  | some S =>
    rw [ob, ob]
    generalize e : fX11_takeOrder (wt_ox (xt_w u)) (wt_oNn (xt_w u)) (wt_oNf (xt_w u)) (wt_oMn (xt_w u)) (wt_oMf (xt_w u)) (wt_oLn (xt_w u)) (wt_oLf (xt_w u)) (wt_oDn (xt_w u)) (wt_oDf (xt_w u)) p1 p2 p3 = r
    cases r with
    | none => rfl
    | some r =>
      rw [ob, ob, ob]
      obtain ⟨r1, r2⟩ := r
      cases r1 with
      | error e => rfl
      | ok a =>
        show ((fX3_commit (xt_hn u) (xt_hc u)).bind _).bind _ = (fX3_commit (xt_hn u) (xt_hc u)).bind _
        cases fX3_commit (xt_hn u) (xt_hc u) <;> rfl
theorem um_addOrder (v : MT) (p1 : Int32) (p2 : Int32) (p3 : Int32) : gX13_addOrder v p1 p2 p3 = mfin v (fun z => z) (fX13_notOrder (mt_w v) p1 p2 p3) (fX13_addsOrder (mt_w v) p1 p2 p3) := by
  unfold gX13_addOrder fX13_addOrder mfin
  cases fX13_notOrder (mt_w v) p1 p2 p3 with
  | none => rfl
  | some z1 =>
    rw [ob, ob]
    by_cases h : z1 = 0
    · rw [if_pos h, if_pos h]
      cases fX13_remembers (mt_ch v) (mt_fc v) (mt_w v) (mt_un v) (mt_be v) with
      | none => rfl
      | some z4 =>
        rw [ob, ob]
        cases fX13_addsOrder (mt_w v) p1 p2 p3 <;> rfl
    · rw [if_neg h, if_neg h]; rfl
theorem un_cancel (u : XT) (p1 : Int32) : gX12_cancel u p1 = (hprep u).bind fun S => (hX11_cancelOrder (xt_w u) p1).bind fun z => fin u S z := by
  unfold gX12_cancel fX12_cancel hX11_cancelOrder
  show ((hprep u).bind _).bind _ = (hprep u).bind _
  cases hprep u with
  | none => rfl
  | some S =>
    rw [ob, ob]
    generalize e : fX11_cancelOrder (wt_oNn (xt_w u)) (wt_oNf (xt_w u)) (wt_oMn (xt_w u)) (wt_oMf (xt_w u)) (wt_oLn (xt_w u)) (wt_oLf (xt_w u)) (wt_oDn (xt_w u)) (wt_oDf (xt_w u)) p1 = r
    cases r with
    | none => rfl
    | some r =>
      rw [ob, ob, ob]
      obtain ⟨r1, r2⟩ := r
      cases r1 with
      | error e => rfl
      | ok a =>
        show ((fX3_commit (xt_hn u) (xt_hc u)).bind _).bind _ = (fX3_commit (xt_hn u) (xt_hc u)).bind _
        cases fX3_commit (xt_hn u) (xt_hc u) <;> rfl
theorem um_cancel (v : MT) (p1 : Int32) : gX13_cancel v p1 = mfin v (fun _ => 1) (fX13_notCancel (mt_w v) p1) (fX13_cancels (mt_w v) p1) := by
  unfold gX13_cancel fX13_cancel mfin
  cases fX13_notCancel (mt_w v) p1 with
  | none => rfl
  | some z1 =>
    rw [ob, ob]
    by_cases h : z1 = 0
    · rw [if_pos h, if_pos h]
      cases fX13_remembers (mt_ch v) (mt_fc v) (mt_w v) (mt_un v) (mt_be v) with
      | none => rfl
      | some z4 =>
        rw [ob, ob]
        cases fX13_cancels (mt_w v) p1 <;> rfl
    · rw [if_neg h, if_neg h]; rfl
theorem un_fill (u : XT) (p1 : Int32) : gX12_fill u p1 = (hprep u).bind fun S => (hX11_fillOrder (xt_w u) p1).bind fun z => fin u S z := by
  unfold gX12_fill fX12_fill hX11_fillOrder
  show ((hprep u).bind _).bind _ = (hprep u).bind _
  cases hprep u with
  | none => rfl
  | some S =>
    rw [ob, ob]
    generalize e : fX11_fillOrder (wt_k (xt_w u)) (wt_l (xt_w u)) (wt_r (xt_w u)) (wt_sNn (xt_w u)) (wt_sNf (xt_w u)) (wt_sMn (xt_w u)) (wt_sMf (xt_w u)) (wt_sLn (xt_w u)) (wt_sLf (xt_w u)) (wt_sKn (xt_w u)) (wt_sKf (xt_w u)) (wt_cMn (xt_w u)) (wt_cMf (xt_w u)) (wt_cLn (xt_w u)) (wt_cLf (xt_w u)) (wt_cTn (xt_w u)) (wt_cTf (xt_w u)) (wt_oNn (xt_w u)) (wt_oNf (xt_w u)) (wt_oMn (xt_w u)) (wt_oMf (xt_w u)) (wt_oLn (xt_w u)) (wt_oLf (xt_w u)) (wt_oDn (xt_w u)) (wt_oDf (xt_w u)) (wt_ac (xt_w u)) (wt_aDn (xt_w u)) (wt_aDf (xt_w u)) (wt_aLn (xt_w u)) (wt_aLf (xt_w u)) p1 = r
    cases r with
    | none => rfl
    | some r =>
      rw [ob, ob, ob]
      obtain ⟨r1, r2⟩ := r
      cases r1 with
      | error e => rfl
      | ok a =>
        show ((fX3_commit (xt_hn u) (xt_hc u)).bind _).bind _ = (fX3_commit (xt_hn u) (xt_hc u)).bind _
        cases fX3_commit (xt_hn u) (xt_hc u) <;> rfl
theorem um_fill (v : MT) (p1 : Int32) : gX13_fill v p1 = mfin v (fun z => z) (fX13_notFill (mt_w v) p1) ((fX13_orderPlace (mt_w v) p1).bind fun z => fX13_fillsAt (mt_w v) z) := by
  unfold gX13_fill fX13_fill mfin
  cases fX13_notFill (mt_w v) p1 with
  | none => rfl
  | some z1 =>
    rw [ob, ob]
    by_cases h : z1 = 0
    · rw [if_pos h, if_pos h]
      cases fX13_remembers (mt_ch v) (mt_fc v) (mt_w v) (mt_un v) (mt_be v) with
      | none => rfl
      | some z4 =>
        rw [ob, ob]
        cases fX13_orderPlace (mt_w v) p1 with
        | none => rfl
        | some z => rw [ob, ob]; cases fX13_fillsAt (mt_w v) z <;> rfl
    · rw [if_neg h, if_neg h]; rfl
theorem un_fillDue (u : XT) (p1 : Int32) : gX12_fillDue u p1 = (hprep u).bind fun S => (hX11_fillUntil (xt_w u) p1).bind fun z => fin u S z := by
  unfold gX12_fillDue fX12_fillDue hX11_fillUntil
  show ((hprep u).bind _).bind _ = (hprep u).bind _
  cases hprep u with
  | none => rfl
  | some S =>
    rw [ob, ob]
    generalize e : fX11_fillUntil (wt_k (xt_w u)) (wt_l (xt_w u)) (wt_r (xt_w u)) (wt_sNn (xt_w u)) (wt_sNf (xt_w u)) (wt_sMn (xt_w u)) (wt_sMf (xt_w u)) (wt_sLn (xt_w u)) (wt_sLf (xt_w u)) (wt_sKn (xt_w u)) (wt_sKf (xt_w u)) (wt_cMn (xt_w u)) (wt_cMf (xt_w u)) (wt_cLn (xt_w u)) (wt_cLf (xt_w u)) (wt_cTn (xt_w u)) (wt_cTf (xt_w u)) (wt_oNn (xt_w u)) (wt_oNf (xt_w u)) (wt_oMn (xt_w u)) (wt_oMf (xt_w u)) (wt_oLn (xt_w u)) (wt_oLf (xt_w u)) (wt_oDn (xt_w u)) (wt_oDf (xt_w u)) (wt_ac (xt_w u)) (wt_aDn (xt_w u)) (wt_aDf (xt_w u)) (wt_aLn (xt_w u)) (wt_aLf (xt_w u)) p1 = r
    cases r with
    | none => rfl
    | some r =>
      rw [ob, ob, ob]
      obtain ⟨r1, r2⟩ := r
      cases r1 with
      | error e => rfl
      | ok a =>
        show ((fX3_commit (xt_hn u) (xt_hc u)).bind _).bind _ = (fX3_commit (xt_hn u) (xt_hc u)).bind _
        cases fX3_commit (xt_hn u) (xt_hc u) <;> rfl
theorem um_fillDue (v : MT) (p1 : Int32) : gX13_fillDue v p1 = mfin v (fun _ => 1) (fX13_notDue p1) (fX13_fillsDue (mt_w v) p1) := by
  unfold gX13_fillDue fX13_fillDue mfin
  cases fX13_notDue p1 with
  | none => rfl
  | some z1 =>
    rw [ob, ob]
    by_cases h : z1 = 0
    · rw [if_pos h, if_pos h]
      cases fX13_remembers (mt_ch v) (mt_fc v) (mt_w v) (mt_un v) (mt_be v) with
      | none => rfl
      | some z4 =>
        rw [ob, ob]
        cases fX13_fillsDue (mt_w v) p1 <;> rfl
    · rw [if_neg h, if_neg h]; rfl
theorem un_setKerf (u : XT) (p1 : Int32) : gX12_setKerf u p1 = (hprep u).bind fun S => (hX11_changeKerf (xt_w u) p1).bind fun z => fin u S z := by
  unfold gX12_setKerf fX12_setKerf hX11_changeKerf
  show ((hprep u).bind _).bind _ = (hprep u).bind _
  cases hprep u with
  | none => rfl
  | some S =>
    rw [ob, ob]
    generalize e : fX11_changeKerf (wt_k (xt_w u)) p1 = r
    cases r with
    | none => rfl
    | some r =>
      rw [ob, ob, ob]
      obtain ⟨r1, r2⟩ := r
      cases r1 with
      | error e => rfl
      | ok a =>
        show ((fX3_commit (xt_hn u) (xt_hc u)).bind _).bind _ = (fX3_commit (xt_hn u) (xt_hc u)).bind _
        cases fX3_commit (xt_hn u) (xt_hc u) <;> rfl
theorem um_setKerf (v : MT) (p1 : Int32) : gX13_setKerf v p1 = mfin v (fun _ => 1) (fX13_notKerf p1) (fX13_sets (mt_w v) 5 p1) := by
  unfold gX13_setKerf fX13_setKerf mfin
  cases fX13_notKerf p1 with
  | none => rfl
  | some z1 =>
    rw [ob, ob]
    by_cases h : z1 = 0
    · rw [if_pos h, if_pos h]
      cases fX13_remembers (mt_ch v) (mt_fc v) (mt_w v) (mt_un v) (mt_be v) with
      | none => rfl
      | some z4 =>
        rw [ob, ob]
        cases fX13_sets (mt_w v) 5 p1 <;> rfl
    · rw [if_neg h, if_neg h]; rfl
theorem un_setScrapLimit (u : XT) (p1 : Int32) : gX12_setScrapLimit u p1 = (hprep u).bind fun S => (hX11_changeScrapLimit (xt_w u) p1).bind fun z => fin u S z := by
  unfold gX12_setScrapLimit fX12_setScrapLimit hX11_changeScrapLimit
  show ((hprep u).bind _).bind _ = (hprep u).bind _
  cases hprep u with
  | none => rfl
  | some S =>
    rw [ob, ob]
    generalize e : fX11_changeScrapLimit (wt_l (xt_w u)) p1 = r
    cases r with
    | none => rfl
    | some r =>
      rw [ob, ob, ob]
      obtain ⟨r1, r2⟩ := r
      cases r1 with
      | error e => rfl
      | ok a =>
        show ((fX3_commit (xt_hn u) (xt_hc u)).bind _).bind _ = (fX3_commit (xt_hn u) (xt_hc u)).bind _
        cases fX3_commit (xt_hn u) (xt_hc u) <;> rfl
theorem um_setScrapLimit (v : MT) (p1 : Int32) : gX13_setScrapLimit v p1 = mfin v (fun _ => 1) (fX13_notLimit p1) (fX13_sets (mt_w v) 6 p1) := by
  unfold gX13_setScrapLimit fX13_setScrapLimit mfin
  cases fX13_notLimit p1 with
  | none => rfl
  | some z1 =>
    rw [ob, ob]
    by_cases h : z1 = 0
    · rw [if_pos h, if_pos h]
      cases fX13_remembers (mt_ch v) (mt_fc v) (mt_w v) (mt_un v) (mt_be v) with
      | none => rfl
      | some z4 =>
        rw [ob, ob]
        cases fX13_sets (mt_w v) 6 p1 <;> rfl
    · rw [if_neg h, if_neg h]; rfl
