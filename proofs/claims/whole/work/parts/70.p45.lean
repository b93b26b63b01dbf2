/-! pure layer: the programs run -/
abbrev hab (n : Int32) (S : Nat → WT) (w : WT) := fX3_abandon n S (wt_k w) (wt_l w) (wt_r w) (wt_sx w) (wt_sNn w) (wt_sNf w) (wt_sMn w) (wt_sMf w) (wt_sLn w) (wt_sLf w) (wt_sKn w) (wt_sKf w) (wt_cMn w) (wt_cMf w) (wt_cLn w) (wt_cLf w) (wt_cTn w) (wt_cTf w) (wt_ox w) (wt_oNn w) (wt_oNf w) (wt_oMn w) (wt_oMf w) (wt_oLn w) (wt_oLf w) (wt_oDn w) (wt_oDf w) (wt_ac w) (wt_aWn w) (wt_aWf w) (wt_aDn w) (wt_aDf w) (wt_aLn w) (wt_aLf w)
abbrev hL (e f hn hc : Int32) (S : Nat → WT) (pl pp pc : Int32) (K : Nat → CT) (fu : Nat) (x2 : Int32) (w : WT) := fX12_run_L42 e f (wt_cTn w) (wt_aWn w) (wt_aDn w) (wt_aLn w) hn hc S pl pp pc K fu x2 (wt_k w) (wt_l w) (wt_r w) (wt_sx w) (wt_sNn w) (wt_sNf w) (wt_sMn w) (wt_sMf w) (wt_sLn w) (wt_sLf w) (wt_sKn w) (wt_sKf w) (wt_cMn w) (wt_cMf w) (wt_cLn w) (wt_cLf w) (wt_cTf w) (wt_ox w) (wt_oNn w) (wt_oNf w) (wt_oMn w) (wt_oMf w) (wt_oLn w) (wt_oLf w) (wt_oDn w) (wt_oDf w) (wt_ac w) (wt_aWf w) (wt_aDf w) (wt_aLf w)
abbrev raw (x : Except String Int32) (e f : Int32) (w : WT) (hn hc : Int32) (S : Nat → WT) (pl pp pc : Int32) (K : Nat → CT) := (x, e, f, wt_k w, wt_l w, wt_r w, wt_sx w, wt_sNn w, wt_sNf w, wt_sMn w, wt_sMf w, wt_sLn w, wt_sLf w, wt_sKn w, wt_sKf w, wt_cMn w, wt_cMf w, wt_cLn w, wt_cLf w, wt_cTn w, wt_cTf w, wt_ox w, wt_oNn w, wt_oNf w, wt_oMn w, wt_oMf w, wt_oLn w, wt_oLf w, wt_oDn w, wt_oDf w, wt_ac w, wt_aWn w, wt_aWf w, wt_aDn w, wt_aDf w, wt_aLn w, wt_aLf w, hn, hc, S, pl, pp, pc, K)
theorem hL_end {e f hn hc pl pp : Int32} {S : Nat → WT} {K : Nat → CT} {n fu : Nat} {w : WT} : hL e f hn hc S pl pp (nI n) K (fu + 1) (nI n) w = (fX3_commit hn hc).bind fun c => some (raw (.ok (nI n)) e f w c.1 c.2 S pl pp (nI n) K) := by
  unfold hL
  rw [fX12_run_L42]
  unfold fX6_count
  rw [ob, if_pos (Int32.le_refl _)] <;> rfl
theorem c_at {n i : Nat} (hi : i < n) (h12 : n ≤ 12) : fX6_commandAt (nI n) (nI i) = some (some i) := by
  unfold fX6_commandAt
  rw [if_neg (nI_pos (by omega)), if_neg (nI_ge hi (by omega)), if_neg (nI_ge (by omega) (by omega)), gd_t (inR_n (by omega) (by omega)), nI_clamp (by omega)]
theorem hL_step {e f hn hc pl pp : Int32} {S : Nat → WT} {K : Nat → CT} {n fu : Nat} {w : WT} {i : Nat} {w' : WT} (hi : i < n) (h12 : n ≤ 12) (h : hsuc w K (some i) = some (.ok 1, w')) : hL e f hn hc S pl pp (nI n) K (fu + 1) (nI i) w = hL e f hn hc S pl pp (nI n) K fu (nI (i + 1)) w' := by
  obtain ⟨⟨x, r⟩, hr, e1⟩ := Option.bind_eq_some_iff.mp h
  have e2 := Option.some.inj e1
  have e3 := Prod.mk.inj e2
  obtain ⟨e4, rfl⟩ := e3
  have e5 : x = .ok 1 := e4
  subst e5
  unfold hL
  rw [fX12_run_L42]
  unfold fX6_count
  rw [ob, if_neg (nI_ge hi (by omega)), c_at hi h12, ob, hr, ob, ex_k, if_neg (show ¬ (1 : Int32) = 0 by decide), nI_1] <;> rfl
theorem hL_fail {e f hn hc pl pp : Int32} {S : Nat → WT} {K : Nat → CT} {n fu : Nat} {w : WT} {i : Nat} {w' : WT} (hi : i < n) (h12 : n ≤ 12) (h : hsuc w K (some i) = some (.ok 0, w')) : hL e f hn hc S pl pp (nI n) K (fu + 1) (nI i) w = (hab hn S w').bind fun z => some (raw (.error "java/lang/UnsupportedOperationException") e (nI i) z hn hc S pl pp (nI n) K) := by
  obtain ⟨⟨x, r⟩, hr, e1⟩ := Option.bind_eq_some_iff.mp h
  have e2 := Option.some.inj e1
  have e3 := Prod.mk.inj e2
  obtain ⟨e4, rfl⟩ := e3
  have e5 : x = .ok 0 := e4
  subst e5
  unfold hL
  rw [fX12_run_L42]
  unfold fX6_count
  rw [ob, if_neg (nI_ge hi (by omega)), c_at hi h12, ob, hr, ob, ex_k, if_pos (show (0 : Int32) = 0 from rfl)] <;> rfl
