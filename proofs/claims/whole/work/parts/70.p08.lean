/-! pure layer: the commands on a workshop of each side -/
def dsum (d : Nat → Nat) : Nat := d 0 + d 1 + d 2 + d 3 + d 4 + d 5
def BR (f : Nat) (D A : Nat → Int32) : Prop := ∃ d a : Nat → Nat, (∀ j, j < 6 → D j = nI (d j) ∧ A j = nI (a j)) ∧ dsum d ≤ 200 * f ∧ dsum a ≤ 5 * f
def WR (b : Nat) (w : WT) (x : Nat → Int32) : Prop := ∃ (n s m o c : Nat) (k l r ac : Int32) (N M L K cM cL T oN oM oL oD W D A : Nat → Int32),
  w = (k, l, r, nI s, nI n, N, nI n, M, nI n, L, nI n, K, nI c, cM, nI c, cL, 6, T, nI o, nI m, oN, nI m, oM, nI m, oL, nI m, oD, ac, 6, W, 6, D, 6, A) ∧
  SR n s N M L K x ∧ OR m o oN oM oL oD x ∧ CR c cM cL x ∧ AR W D A T x ∧ SE k l r ac x ∧ s ≤ b ∧ o ≤ b ∧ m ≤ o ∧ BR (o - m) D A ∧ b < 100000
theorem WR_mono {b b' : Nat} {w : WT} {x : Nat → Int32} (h : WR b w x) (hb : b ≤ b') (hb' : b' < 100000) : WR b' w x := by
  obtain ⟨n, s, m, o, c, k, l, r, ac, N, M, L, K, cM, cL, T, oN, oM, oL, oD, W, D, A, e, h1, h2, h3, h4, h5, h6, h7, h8, h9, h10⟩ := h
  exact ⟨n, s, m, o, c, k, l, r, ac, N, M, L, K, cM, cL, T, oN, oM, oL, oD, W, D, A, e, h1, h2, h3, h4, h5, by omega, by omega, h8, h9, hb'⟩
theorem WR_fr {b : Nat} {w : WT} {x x' : Nat → Int32} (h : WR b w x) (e : ∀ j, j < 201 → x' j = x j) : WR b w x' := by
  obtain ⟨n, s, m, o, c, k, l, r, ac, N, M, L, K, cM, cL, T, oN, oM, oL, oD, W, D, A, e0, h1, h2, h3, h4, h5, h6, h7, h8, h9, h10⟩ := h
  exact ⟨n, s, m, o, c, k, l, r, ac, N, M, L, K, cM, cL, T, oN, oM, oL, oD, W, D, A, e0, SR_fr h1 fun j hj => e j (by omega), OR_fr h2 fun j hj => e j (by omega), CR_fr h3 fun j hj => e j (by omega), AR_fr h4 fun j hj => e j (by omega), SE_fr h5 fun j hj => e j (by omega), h6, h7, h8, h9, h10⟩
def SIM (b : Nat) (w : WT) (Es : List String) (r : Option ((Except String Int32) × WT)) (no : Option Int32) (ex : Option (Int32 × (Nat → Int32))) : Prop :=
  (∃ e q, r = some (.error e, w) ∧ no = some q ∧ q ≠ 0 ∧ kx Es (.error e : Except String Int32) = some q) ∨ (∃ v w' x', r = some (.ok v, w') ∧ no = some 0 ∧ ex = some (v, x') ∧ WR b w' x')
theorem btw (p lo hi : Int32) : fX13_isBetween p lo hi = some (if p < lo then 0 else if hi < p then 0 else 1) := by
  unfold fX13_isBetween
  by_cases h : p < lo
  · rw [if_pos h, if_pos h]
  · rw [if_neg h, if_neg h]
    by_cases h2 : hi < p
    · rw [if_pos h2, if_pos h2]
    · rw [if_neg h2, if_neg h2]
theorem in_btw {p : Int32} {lo hi : Nat} (hh : hi < 2 ^ 31) (hl : lo ≤ hi) (h1 : ¬ p < nI lo) (h2 : ¬ nI hi < p) : ∃ a, lo ≤ a ∧ a ≤ hi ∧ p = nI a := by
  have g1 := Int32.le_iff_toInt_le.mp (Int32.not_lt.mp h1)
  have g2 := Int32.le_iff_toInt_le.mp (Int32.not_lt.mp h2)
  rw [nI_toInt (by omega)] at g1
  rw [nI_toInt hh] at g2
  refine ⟨p.toInt.toNat, by omega, by omega, ?_⟩
  rw [← Int32.toInt_inj, nI_toInt (by omega)]; omega
theorem m_mat (p : Int32) : fX13_isMaterial p = some (if p < 97 then 0 else if 102 < p then 0 else 1) := by
  unfold fX13_isMaterial
  rw [btw, ob]
  by_cases h : p < 97
  · rw [if_pos h]; rfl
  · rw [if_neg h]
    by_cases h2 : 102 < p
    · rw [if_pos h2]; rfl
    · rw [if_neg h2]; rfl
theorem c_mat (p : Int32) : fX12_requireMaterial p = some (if p < 97 then .error "java/lang/IllegalArgumentException" else if 102 < p then .error "java/lang/IllegalArgumentException" else .ok ()) := by
  unfold fX12_requireMaterial fX12_isMaterial
  by_cases h : p < 97
  · rw [if_pos h, if_pos h]; rfl
  · rw [if_neg h, if_neg h]
    by_cases h2 : 102 < p
    · rw [if_pos h2, if_pos h2]; rfl
    · rw [if_neg h2, if_neg h2]; rfl
theorem mat_cs (p : Int32) : (fX12_requireMaterial p = some (.error "java/lang/IllegalArgumentException") ∧ fX13_isMaterial p = some 0) ∨ (∃ q, q < 6 ∧ p = nI (97 + q) ∧ fX12_requireMaterial p = some (.ok ()) ∧ fX13_isMaterial p = some 1) := by
  rw [c_mat, m_mat]
  by_cases h : p < 97
  · rw [if_pos h, if_pos h]; exact Or.inl ⟨rfl, rfl⟩
  · rw [if_neg h, if_neg h]
    by_cases h2 : 102 < p
    · rw [if_pos h2, if_pos h2]; exact Or.inl ⟨rfl, rfl⟩
    · rw [if_neg h2, if_neg h2]
      obtain ⟨a, h3, h4, h5⟩ := in_btw (lo := 97) (hi := 102) (by omega) (by omega) h h2
      exact Or.inr ⟨a - 97, by omega, by rw [h5]; congr 1; omega, rfl, rfl⟩
theorem kxI {Es : List String} : kx ("java/lang/IllegalArgumentException" :: Es) (.error "java/lang/IllegalArgumentException" : Except String Int32) = some 1 := by
  unfold kx; exact if_pos rfl
theorem upS {x : Nat → Int32} {k j : Nat} {v : Int32} (h : j = k) : upd x k v j = v := if_pos h
theorem m_adds {x : Nat → Int32} {n s q : Nat} {l : Int32} (hn : n < 10) (hq : q < 6) (h0 : x 0 = nI n) (h1 : x 1 = nI s) :
    ∃ x', fX13_addsSpool x (nI (97 + q)) l = some (nI s, x') ∧ x' 0 = nI (n + 1) ∧ x' 1 = nI (s + 1) ∧ x' (33 + 4 * n) = nI s ∧ x' (34 + 4 * n) = nI q ∧ x' (35 + 4 * n) = l ∧ x' (36 + 4 * n) = 0 ∧ x' (9 + q) = x (9 + q) + l ∧ (∀ j, 2 ≤ j → j ≠ 9 + q → j < 33 + 4 * n ∨ 37 + 4 * n ≤ j → x' j = x j) := by
  have e0 : (33 : Int32) + 4 * nI n + 0 = nI (33 + 4 * n) := by rw [show (33 : Int32) = nI 33 from rfl, show (4 : Int32) = nI 4 from rfl, pk_mul, nI_add]; exact Int32.add_zero _
  have e1 : (33 : Int32) + 4 * nI n + 1 = nI (34 + 4 * n) := by rw [show (33 : Int32) = nI 33 from rfl, show (4 : Int32) = nI 4 from rfl, pk_mul, nI_add, nI_1]; congr 1; omega
  have e2 : (33 : Int32) + 4 * nI n + 2 = nI (35 + 4 * n) := by rw [show (33 : Int32) = nI 33 from rfl, show (4 : Int32) = nI 4 from rfl, show (2 : Int32) = nI 2 from rfl, pk_mul, nI_add, nI_add]; congr 1; omega
  have e3 : (33 : Int32) + 4 * nI n + 3 = nI (36 + 4 * n) := by rw [show (33 : Int32) = nI 33 from rfl, show (4 : Int32) = nI 4 from rfl, show (3 : Int32) = nI 3 from rfl, pk_mul, nI_add, nI_add]; congr 1; omega
  have e4 : (9 : Int32) + nI (97 + q) - 97 = nI (9 + q) := by
    rw [show (9 : Int32) = nI 9 from rfl, nI_add]
    have := pk_sub (a := 9 + (97 + q)) (b := 97) (by omega)
    rw [show 9 + (97 + q) - 97 = 9 + q by omega] at this; exact this
  unfold fX13_addsSpool
  simp only [h0, h1, e0, e1, e2, e3, e4]
  rw [gd_t (inR_n (by omega) (by omega)), gd_t (inR_n (by omega) (by omega)), gd_t (inR_n (by omega) (by omega)), gd_t (inR_n (by omega) (by omega)), gd_t (inR_n (by omega) (by omega)), gd_t (inR_n (by omega) (by omega))]
  simp only [nI_clamp (show 33 + 4 * n < 2 ^ 31 by omega), nI_clamp (show 34 + 4 * n < 2 ^ 31 by omega), nI_clamp (show 35 + 4 * n < 2 ^ 31 by omega), nI_clamp (show 36 + 4 * n < 2 ^ 31 by omega), nI_clamp (show 9 + q < 2 ^ 31 by omega), m97 hq]
  refine ⟨_, congrArg some (Prod.ext ?_ rfl), ?_, ?_, ?_, ?_, ?_, ?_, ?_, ?_⟩
  · show upd _ 1 _ 1 - 1 = nI s
    rw [pk_us, pk_un (show 1 ≠ 0 by decide), pk_un (show 1 ≠ 9 + q by omega), pk_un (show 1 ≠ 36 + 4 * n by omega), pk_un (show 1 ≠ 35 + 4 * n by omega), pk_un (show 1 ≠ 34 + 4 * n by omega), pk_un (show 1 ≠ 33 + 4 * n by omega), h1]
    rw [nI_1]; exact nI_pred s
  · rw [pk_un (show 0 ≠ 1 by decide), pk_us, pk_un (show 0 ≠ 9 + q by omega), pk_un (show 0 ≠ 36 + 4 * n by omega), pk_un (show 0 ≠ 35 + 4 * n by omega), pk_un (show 0 ≠ 34 + 4 * n by omega), pk_un (show 0 ≠ 33 + 4 * n by omega), h0]
    exact nI_1 n
  · rw [pk_us, pk_un (show 1 ≠ 0 by decide), pk_un (show 1 ≠ 9 + q by omega), pk_un (show 1 ≠ 36 + 4 * n by omega), pk_un (show 1 ≠ 35 + 4 * n by omega), pk_un (show 1 ≠ 34 + 4 * n by omega), pk_un (show 1 ≠ 33 + 4 * n by omega), h1]
    exact nI_1 s
  · rw [pk_un (by omega), pk_un (by omega), pk_un (by omega), pk_un (by omega), pk_un (by omega), pk_un (by omega), pk_us]
  · rw [pk_un (by omega), pk_un (by omega), pk_un (by omega), pk_un (by omega), pk_un (by omega), pk_us]
  · rw [pk_un (by omega), pk_un (by omega), pk_un (by omega), pk_un (by omega), pk_us]
  · rw [pk_un (by omega), pk_un (by omega), pk_un (by omega), pk_us]
  · rw [pk_un (by omega), pk_un (by omega), pk_us, pk_un (by omega), pk_un (by omega), pk_un (by omega), pk_un (by omega)]
  · intro j j1 j2 j3
    rw [pk_un (by omega), pk_un (by omega), pk_un j2, pk_un (by omega), pk_un (by omega), pk_un (by omega), pk_un (by omega)]
theorem AR_W {W D A T x x' : Nat → Int32} {q : Nat} {l : Int32} (h : AR W D A T x) (hq : q < 6) (hc : x' (9 + q) = x (9 + q) + l) (hr : ∀ j, 9 ≤ j → j < 33 → j ≠ 9 + q → x' j = x j) : AR (upd W q (W q + l)) D A T x' := by
  intro j hj
  obtain ⟨k1, k2, k3, k4⟩ := h j hj
  refine ⟨?_, (hr _ (by omega) (by omega) (by omega)).trans k2, (hr _ (by omega) (by omega) (by omega)).trans k3, (hr _ (by omega) (by omega) (by omega)).trans k4⟩
  rw [upd_e]
  by_cases e : j = q
  · subst e; rw [if_pos rfl, hc, k1]
  · rw [if_neg e, hr _ (by omega) (by omega) (by omega), k1]
theorem exO {α β : Type} {a : α} {f : String → Option β} {k : α → Option β} : exC (.ok a) f k = k a := rfl
theorem exE {α β : Type} {a : String} {f : String → Option β} {k : α → Option β} : exC (.error a) f k = f a := rfl
theorem S_wind {b : Nat} {w : WT} {x : Nat → Int32} (h : WR b w x) (hb : b < 90000) (p1 p2 : Int32) :
    SIM (b + 1) w ["java/lang/IllegalArgumentException", "java/lang/IllegalStateException"] (hX11_windSpool w p1 p2) (fX13_notSpool x p1 p2) (fX13_addsSpool x p1 p2) := by
  obtain ⟨n, s, m, o, c, k, l, r, ac, N, M, L, K, cM, cL, T, oN, oM, oL, oD, W, D, A, rfl, h1, h2, h3, h4, h5, h6, h7, h8, h9, h10⟩ := h
  have hn := h1.1
  unfold hX11_windSpool
  dsimp only [wt_k, wt_l, wt_r, wt_sx, wt_sNn, wt_sNf, wt_sMn, wt_sMf, wt_sLn, wt_sLf, wt_sKn, wt_sKf, wt_cMn, wt_cMf, wt_cLn, wt_cLf, wt_cTn, wt_cTf, wt_ox, wt_oNn, wt_oNf, wt_oMn, wt_oMf, wt_oLn, wt_oLf, wt_oDn, wt_oDf, wt_ac, wt_aWn, wt_aWf, wt_aDn, wt_aDf, wt_aLn, wt_aLf]
  unfold fX11_windSpool fX13_notSpool
  rcases mat_cs p1 with ⟨e1, e2⟩ | ⟨q, hq, rfl, e1, e2⟩
  · rw [e1, e2, ob, ob]
    exact Or.inl ⟨_, 1, rfl, rfl, by decide, kxI⟩
  · rw [e1, e2, ob, ob, exO, if_neg (show ¬ (1 : Int32) = 0 by decide), btw, ob]
    by_cases g1 : p2 < 10
    · simp only [if_pos g1]
      exact Or.inl ⟨_, 1, rfl, rfl, by decide, kxI⟩
    · simp only [if_neg g1]
      by_cases g2 : 999 < p2
      · simp only [if_neg (Int32.not_le.mpr g2), if_pos g2]
        exact Or.inl ⟨_, 1, rfl, rfl, by decide, kxI⟩
      · simp only [if_pos (Int32.not_lt.mp g2), if_neg g2, if_neg (show ¬ (1 : Int32) = 0 by decide)]
        obtain ⟨a, a1, a2, rfl⟩ := in_btw (lo := 10) (hi := 999) (by omega) (by omega) g1 g2
        rw [fX9_count, fX7_size, ob, ob, h1.2.1]
        by_cases g3 : n = 10
        · subst g3
          rw [if_neg (show ¬ nI 10 < 10 by decide), if_pos (show nI 10 = 10 from rfl)]
          refine Or.inl ⟨_, 2, rfl, rfl, by decide, ?_⟩
          decide
        · have g4 : nI n < (10 : Int32) := (nI_lt (show n < 10 by omega) (by omega) : nI n < nI 10)
          have g5 : ¬ nI n = (10 : Int32) := fun e => g3 ((nI_eq (b := 10) (by omega) (by omega)).mp e)
          rw [if_pos g4, if_neg g5, fX12_placeOf, ob, m97 hq, show (6 : Int32) = nI 6 from rfl, row_inc hq (Nat.le_refl _) (by omega), ob, sp_add (by omega), ob]
          obtain ⟨x', r1, r2, r3, r4, r5, r6, r7, r8, r9⟩ := m_adds (l := nI a) (by omega) hq h1.2.1 h1.2.2.1
          refine Or.inr ⟨nI s, _, x', rfl, rfl, r1, n + 1, s + 1, m, o, c, k, l, r, ac, upd N n (nI s), upd M n (nI (97 + q)), upd L n (nI a), upd K n 0, cM, cL, T, oN, oM, oL, oD, upd W q (W q + nI a), D, A, ?_, SR_add h1 (by omega) (by omega) hq (by omega) a2 r2 r3 r4 r5 r6 r7 ?_, OR_fr h2 ?_, CR_fr h3 ?_, AR_W h4 hq r8 ?_, SE_fr h5 ?_, by omega, by omega, h8, h9, by omega⟩
          · rw [nI_1]; rfl
          · intro j j1 j2; exact r9 j (by omega) (by omega) (by omega)
          · intro j hj; exact r9 j (by omega) (by omega) (by omega)
          · intro j hj; exact r9 j (by omega) (by omega) (by omega)
          · intro j j1 j2 j3; exact r9 j (by omega) (by omega) (by omega)
          · intro j hj; exact r9 j (by omega) (by omega) (by omega)
