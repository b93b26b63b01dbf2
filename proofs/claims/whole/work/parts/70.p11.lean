/-! pure layer: cutting and filling -/
theorem c_lose {k la a q : Nat} {A : Nat → Int32} (hk : k ≤ 5) (ha : a ≤ la) (hl : la ≤ 999) (hq : q < 6) :
    ∃ lf ls, fX11_lose (nI k) 6 A (nI (97 + q)) (nI la - nI a) = some (nI lf, upd A q (A q + nI ls)) ∧ ls ≤ k ∧ lf + ls + a = la ∧ (∀ x : Nat → Int32, x 5 = nI k → fX13_leftOf x (nI q) (nI la) (nI a) = some (nI lf, upd (upd x (15 + q) (x (15 + q) + nI a)) (21 + q) (x (21 + q) + nI ls))) := by
  have e6 : (6 : Int32) = nI 6 := rfl
  rw [pk_sub ha]
  by_cases h : k ≤ la - a
  · refine ⟨la - a - k, k, ?_, Nat.le_refl _, by omega, fun x h5 => ?_⟩
    · unfold fX11_lose
      rw [if_pos (nI_le h (by omega)), fX12_placeOf, ob, m97 hq, e6, row_inc hq (Nat.le_refl _) (by omega), ob, pk_sub h]
    · unfold fX13_leftOf
      rw [h5, pk_sub ha, if_pos (nI_le h (by omega)), show (15 : Int32) = nI 15 from rfl, show (21 : Int32) = nI 21 from rfl, nI_add, nI_add, gd_t (inR_n (by omega) (by omega)), gd_t (inR_n (by omega) (by omega)), gd_t (inR_n (by omega) (by omega)), gd_t (inR_n (by omega) (by omega)), nI_clamp (by omega), nI_clamp (by omega), pk_un (show 21 + q ≠ 15 + q by omega), pk_sub h]
  · refine ⟨0, la - a, ?_, by omega, by omega, fun x h5 => ?_⟩
    · unfold fX11_lose
      rw [if_neg (nI_ge (by omega) (by omega)), fX12_placeOf, ob, m97 hq, e6, row_inc hq (Nat.le_refl _) (by omega), ob, pk_sub (Nat.le_refl _), Nat.sub_self]
    · unfold fX13_leftOf
      rw [h5, pk_sub ha, if_neg (nI_ge (by omega) (by omega)), show (15 : Int32) = nI 15 from rfl, show (21 : Int32) = nI 21 from rfl, nI_add, nI_add, gd_t (inR_n (by omega) (by omega)), gd_t (inR_n (by omega) (by omega)), gd_t (inR_n (by omega) (by omega)), gd_t (inR_n (by omega) (by omega)), nI_clamp (by omega), nI_clamp (by omega), pk_un (show 21 + q ≠ 15 + q by omega), pk_sub (Nat.le_refl _), Nat.sub_self]
theorem AR_L {W D A T x : Nat → Int32} {q a ls : Nat} (h : AR W D A T x) (hq : q < 6) : AR W (upd D q (D q + nI a)) (upd A q (A q + nI ls)) T (upd (upd x (15 + q) (x (15 + q) + nI a)) (21 + q) (x (21 + q) + nI ls)) := by
  intro j hj
  obtain ⟨k1, k2, k3, k4⟩ := h j hj
  obtain ⟨u1, u2, u3, u4⟩ := h q hq
  refine ⟨?_, ?_, ?_, ?_⟩
  · rw [pk_un (by omega), pk_un (by omega)]; exact k1
  · rw [pk_un (by omega), upd_e, upd_e]
    by_cases e : j = q
    · subst e; rw [if_pos rfl, if_pos rfl, k2]
    · rw [if_neg (by omega), if_neg e]; exact k2
  · by_cases e : j = q
    · subst e; rw [pk_us, pk_us, k3]
    · rw [pk_un (show 21 + j ≠ 21 + q by omega), pk_un (show 21 + j ≠ 15 + q by omega), pk_un e]; exact k3
  · rw [pk_un (by omega), pk_un (by omega)]; exact k4
theorem S_cutSpool {n s p q la a k l c : Nat} {N M L K cM cL W D A T x : Nat → Int32} (h1 : SR n s N M L K x) (h3 : CR c cM cL x) (h4 : AR W D A T x) (hk : k ≤ 5) (hl : 1 ≤ l) (hl2 : l ≤ 50) (h5 : x 5 = nI k) (h6 : x 6 = nI l) (hp : p < n) (hq : q < 6) (hm : M p = nI (97 + q)) (hL : L p = nI la) (hla : la ≤ 999) (ha : a ≤ la) (ha1 : 1 ≤ a) :
    ∃ n' c' ls N' M' L' K' cM' cL' T' x', fX11_cutSpool (nI k) (nI l) (nI n) N (nI n) M (nI n) L (nI n) K (nI c) cM (nI c) cL 6 T 6 A (nI p) (nI (97 + q)) (nI a) = some (nI n', N', nI n', M', nI n', L', nI n', K', nI c', cM', nI c', cL', T', upd A q (A q + nI ls)) ∧ fX13_cutsSpool x (nI p) (nI a) = some x' ∧ SR n' s N' M' L' K' x' ∧ CR c' cM' cL' x' ∧ AR W (upd D q (D q + nI a)) (upd A q (A q + nI ls)) T' x' ∧ ls ≤ k ∧ (∀ j, 1 ≤ j ∧ j < 9 ∧ j ≠ 4 ∨ 73 ≤ j ∧ j < 121 → x' j = x j) := by
  have hn := h1.1
  obtain ⟨y1, y2, y3, y4⟩ := h1.2.2.2.1 p hp
  obtain ⟨_, ⟨la', kk, u1, u2, u3, u4⟩, _⟩ := h1.2.2.2.2.1 p hp
  have hla' : la = la' := (nI_eq (show la < 2 ^ 31 by omega) (show la' < 2 ^ 31 by omega)).mp (hL.symm.trans u3)
  subst hla'
  obtain ⟨lf, ls, r1, r2, r3, r4⟩ := c_lose (A := A) hk ha hla hq
  have hA := AR_L (a := a) (ls := ls) h4 hq
  have r5 := r4 x h5
  generalize hx8 : upd (upd x (15 + q) (x (15 + q) + nI a)) (21 + q) (x (21 + q) + nI ls) = x8 at hA r5
  have f8 : ∀ j, j < 9 ∨ 33 ≤ j → x8 j = x j := fun j hj => by rw [← hx8, pk_un (by omega), pk_un (by omega)]
  have e2 : (33 : Int32) + 4 * nI p + 2 = nI (35 + 4 * p) := by rw [show (33 : Int32) = nI 33 from rfl, show (4 : Int32) = nI 4 from rfl, show (2 : Int32) = nI 2 from rfl, pk_mul, nI_add, nI_add]; congr 1; omega
  have e3 : (33 : Int32) + 4 * nI p + 3 = nI (36 + 4 * p) := by rw [show (33 : Int32) = nI 33 from rfl, show (4 : Int32) = nI 4 from rfl, show (3 : Int32) = nI 3 from rfl, pk_mul, nI_add, nI_add]; congr 1; omega
  unfold fX11_cutSpool fX13_cutsSpool
  rw [fX9_lengthAt, row_get hp hn (by omega), ob, ob, hL, r1, ob, m_sp1 (by omega), ob, m_sp2 (by omega), ob, y2, y3, hm, hL, m97 hq, r5, ob]
  simp only [e2, e3, nI_clamp (show 35 + 4 * p < 2 ^ 31 by omega), nI_clamp (show 36 + 4 * p < 2 ^ 31 by omega)]
  rw [gd_t (inR_n (by omega) (by omega)), gd_t (inR_n (by omega) (by omega)), gd_t (inR_n (by omega) (by omega)), pk_un (show 36 + 4 * p ≠ 35 + 4 * p by omega), f8 (36 + 4 * p) (by omega), y4, u4, nI_1]
  generalize hx9 : upd (upd x8 (35 + 4 * p) (nI lf)) (36 + 4 * p) (nI (kk + 1)) = x9
  have f9 : ∀ j, j ≠ 35 + 4 * p → j ≠ 36 + 4 * p → x9 j = x8 j := fun j j1 j2 => by rw [← hx9, pk_un j2, pk_un j1]
  rw [f9 6 (by omega) (by omega), f8 6 (by omega), h6]
  by_cases g : lf < l
  · rw [if_pos (nI_lt g (by omega)), if_pos (nI_lt g (by omega)), sp_del hn hp, ob]
    obtain ⟨x2, s1, s2, s3⟩ := S_rmS (x1 := x9) h1 hp ((f9 0 (by omega) (by omega)).trans (f8 0 (by omega))) ((f9 1 (by omega) (by omega)).trans (f8 1 (by omega))) (fun j j1 j2 j3 j4 => (f9 j j3 j4).trans (f8 j (by omega)))
    rw [s1, ob]
    have hA2 : AR W (upd D q (D q + nI a)) (upd A q (A q + nI ls)) T x2 := AR_fr hA (fun j hj => (s3 j (by omega) (by omega)).trans (f9 j (by omega) (by omega)))
    have hC2 : CR c cM cL x2 := CR_fr h3 (fun j hj => (s3 j (by omega) (by omega)).trans ((f9 j (by omega) (by omega)).trans (f8 j (by omega))))
    by_cases g0 : lf = 0
    · subst g0
      rw [if_pos (show nI 0 ≤ 0 by decide), if_pos (show nI 0 ≤ 0 by decide)]
      exact ⟨n - 1, c, ls, _, _, _, _, cM, cL, T, x2, rfl, rfl, s2, hC2, hA2, r2, fun j hj => (s3 j (by omega) (by omega)).trans ((f9 j (by omega) (by omega)).trans (f8 j (by omega)))⟩
    · rw [if_neg (nI_nle (by omega) (by omega)), if_neg (nI_nle (by omega) (by omega))]
      obtain ⟨c', M', L', T', x3, t1, t2, t3, t4, t5⟩ := S_leave hC2 hA2 hq (show 1 ≤ lf by omega) (show lf ≤ 999 by omega)
      rw [t1, t2, ob, ob]
      exact ⟨n - 1, c', ls, _, _, _, _, M', L', T', x3, rfl, rfl, SR_fr s2 (fun j hj => t5 j (by omega) (by omega) (by omega)), t3, t4, r2, fun j hj => (t5 j (by omega) (by omega) (by omega)).trans ((s3 j (by omega) (by omega)).trans ((f9 j (by omega) (by omega)).trans (f8 j (by omega))))⟩
  · rw [if_neg (nI_nlt (by omega) (by omega)), if_neg (nI_nlt (by omega) (by omega)), sp_sho hn hp, ob]
    refine ⟨n, c, ls, _, _, _, _, cM, cL, T, x9, rfl, rfl, SR_shr (k := kk) (a := lf) h1 hp (by omega) u4 (by omega) ((f9 0 (by omega) (by omega)).trans (f8 0 (by omega))) ((f9 1 (by omega) (by omega)).trans (f8 1 (by omega))) ?_ ?_ (fun j j1 j2 j3 j4 => (f9 j j3 j4).trans (f8 j (by omega))), CR_fr h3 (fun j hj => (f9 j (by omega) (by omega)).trans (f8 j (by omega))), AR_fr hA (fun j hj => f9 j (by omega) (by omega)), r2, fun j hj => (f9 j (by omega) (by omega)).trans (f8 j (by omega))⟩
    · rw [← hx9, pk_un (by omega), pk_us]
    · rw [← hx9, pk_us]
theorem S_cutScrap {p p2 q la a k c : Nat} {cM cL W D A T x : Nat → Int32} (h3 : CR c cM cL x) (h4 : AR W D A T x) (hk : k ≤ 5) (h5 : x 5 = nI k) (hp : p < c) (hp2 : p2 < c) (he : prc cM cL p = prx x p2) (hq : q < 6) (hm : cM p = nI (97 + q)) (hL : cL p = nI la) (hla : la ≤ 999) (ha : a ≤ la) (ha1 : 1 ≤ a) :
    ∃ c' ls cM' cL' x', fX11_cutScrap (nI k) (nI c) cM (nI c) cL 6 T 6 A (nI p) (nI (97 + q)) (nI a) = some (nI c', cM', nI c', cL', T, upd A q (A q + nI ls)) ∧ fX13_cutsScrap x (nI p2) (nI a) = some x' ∧ CR c' cM' cL' x' ∧ AR W (upd D q (D q + nI a)) (upd A q (A q + nI ls)) T x' ∧ ls ≤ k ∧ (∀ j, j ≠ 4 → j < 9 ∨ 33 ≤ j ∧ j < 121 → x' j = x j) := by
  have hc := h3.1
  obtain ⟨lf, ls, r1, r2, r3, r4⟩ := c_lose (A := A) hk ha hla hq
  have hA := AR_L (a := a) (ls := ls) h4 hq
  have r5 := r4 x h5
  generalize hx8 : upd (upd x (15 + q) (x (15 + q) + nI a)) (21 + q) (x (21 + q) + nI ls) = x8 at hA r5
  have f8 : ∀ j, j < 9 ∨ 33 ≤ j → x8 j = x j := fun j hj => by rw [← hx8, pk_un (by omega), pk_un (by omega)]
  have y1 : x (121 + 2 * p2) = nI q := by
    have := congrArg Prod.fst he
    unfold prc prx at this
    rw [hm, m97 hq] at this; exact this.symm
  have y2 : x (122 + 2 * p2) = nI la := by
    have := congrArg Prod.snd he
    unfold prc prx at this
    rw [hL] at this; exact this.symm
  have e1 : (121 : Int32) + 2 * nI p2 + 1 = nI (122 + 2 * p2) := by rw [show (121 : Int32) = nI 121 from rfl, show (2 : Int32) = nI 2 from rfl, pk_mul, nI_add, nI_1]; congr 1; omega
  unfold fX11_cutScrap fX13_cutsScrap
  rw [fX8_lengthAt, row_get hp hc (by omega), ob, ob, hL, r1, ob, m_sc0 (by omega), ob, m_sc1 (by omega), ob, y1, y2, r5, ob, sc_del hc hp, ob]
  simp only [e1, nI_clamp (show 122 + 2 * p2 < 2 ^ 31 by omega)]
  rw [gd_t (inR_n (by omega) (by omega))]
  generalize hx9 : upd x8 (122 + 2 * p2) (nI lf) = x9
  have f9 : ∀ j, j ≠ 122 + 2 * p2 → x9 j = x8 j := fun j j1 => by rw [← hx9, pk_un j1]
  have hA9 : AR W (upd D q (D q + nI a)) (upd A q (A q + nI ls)) T x9 := AR_fr hA (fun j hj => f9 j (by omega))
  by_cases g0 : lf = 0
  · subst g0
    rw [if_pos (show nI 0 ≤ 0 by decide), if_pos (show nI 0 = 0 from rfl), m_rc hc ((f9 4 (by omega)).trans ((f8 4 (by omega)).trans h3.2.1)) hp2, ob]
    have fr : ∀ j, j ≠ 4 → j < 121 → upd (clz x9 (121 + 2 * p2) 2 (121 + 2 * c)) 4 (nI (c - 1)) j = x9 j := fun j j1 j2 => by rw [pk_un j1, clz_0 (by omega) (by omega)]
    refine ⟨c - 1, ls, _, _, _, rfl, rfl, CR_del (q := p2) h3 hp hp2 he pk_us ?_, AR_fr hA9 (fun j hj => fr j (by omega) (by omega)), r2, fun j j1 j2 => (fr j j1 (by omega)).trans ((f9 j (by omega)).trans (f8 j (by omega)))⟩
    intro j hj
    have hs1 : sh p2 j < c := sh_lt hj
    have hs2 : sh p2 j ≠ p2 := sh_ne
    rw [pk_un (by omega), pk_un (by omega)]
    unfold clz
    unfold sh at hs1 hs2 ⊢
    by_cases f : p2 ≤ j
    · rw [if_pos f] at hs1 hs2 ⊢
      rw [if_pos (show 121 + 2 * p2 ≤ 121 + 2 * j ∧ 121 + 2 * j + 2 < 121 + 2 * c by omega), if_pos (show 121 + 2 * p2 ≤ 122 + 2 * j ∧ 122 + 2 * j + 2 < 121 + 2 * c by omega), f9 _ (by omega), f9 _ (by omega), f8 _ (by omega), f8 _ (by omega)]
      exact ⟨by congr 1, by congr 1⟩
    · rw [if_neg f] at hs1 hs2 ⊢
      rw [if_neg (show ¬ (121 + 2 * p2 ≤ 121 + 2 * j ∧ 121 + 2 * j + 2 < 121 + 2 * c) by omega), if_neg (show ¬ (121 + 2 * p2 ≤ 122 + 2 * j ∧ 122 + 2 * j + 2 < 121 + 2 * c) by omega), if_neg (show ¬ (121 + 2 * c ≤ 121 + 2 * j + 2 ∧ 121 + 2 * j < 121 + 2 * c) by omega), if_neg (show ¬ (121 + 2 * c ≤ 122 + 2 * j + 2 ∧ 122 + 2 * j < 121 + 2 * c) by omega), f9 _ (by omega), f9 _ (by omega), f8 _ (by omega), f8 _ (by omega)]
      exact ⟨rfl, rfl⟩
  · have g1 : ¬ nI lf = 0 := nI_ne0 (by omega) (by omega)
    rw [if_neg (nI_nle (by omega) (by omega)), if_neg g1, sc_kp (by omega), ob]
    have hcm := CR_mod (x' := x9) h3 hp hp2 he hq hm (show 1 ≤ lf by omega) (show lf ≤ 999 by omega) rfl ((f9 4 (by omega)).trans (f8 4 (by omega))) (by rw [← hx9, pk_us]) (fun j j1 j2 j3 => (f9 j j3).trans (f8 j (by omega)))
    refine ⟨c, ls, _, _, x9, ?_, rfl, hcm, hA9, r2, fun j j1 j2 => (f9 j (by omega)).trans (f8 j (by omega))⟩
    rw [show c - 1 + 1 = c by omega]
