/-! pure layer: stock, orders, scraps, accounts on both sides -/
def mat (v : Int32) : Prop := ∃ q : Nat, q < 6 ∧ v = nI (97 + q)
def rg (v : Int32) (lo hi : Nat) : Prop := ∃ a : Nat, lo ≤ a ∧ a ≤ hi ∧ v = nI a
def sh (i j : Nat) : Nat := if i ≤ j then j + 1 else j
theorem sh_lt {i j n : Nat} (hj : j + 1 < n) : sh i j < n := by unfold sh; split <;> omega
theorem sh_mono {i j k : Nat} (h : j < k) : sh i j < sh i k := by unfold sh; split <;> split <;> omega
theorem sh_ne {i j : Nat} : sh i j ≠ i := by unfold sh; split <;> omega
theorem del_sh {f : Nat → Int32} {n i j : Nat} (hj : j + 1 < n) : del f n i j = f (sh i j) := by
  unfold del sh
  by_cases h : i ≤ j
  · rw [if_pos ⟨h, hj⟩, if_pos h]
  · rw [if_neg (fun q => h q.1), if_neg h]
def SR (n s : Nat) (N M L K x : Nat → Int32) : Prop :=
  n ≤ 10 ∧ x 0 = nI n ∧ x 1 = nI s ∧ (∀ i, i < n → x (33 + 4 * i) = N i ∧ x (34 + 4 * i) = M i - 97 ∧ x (35 + 4 * i) = L i ∧ x (36 + 4 * i) = K i) ∧
  (∀ i, i < n → mat (M i) ∧ (∃ a k, 1 ≤ a ∧ a + k ≤ 999 ∧ L i = nI a ∧ K i = nI k) ∧ ∃ q, q < s ∧ N i = nI q) ∧ (∀ i j, i < j → j < n → N i < N j)
def OR (n s : Nat) (N M L D x : Nat → Int32) : Prop :=
  n ≤ 12 ∧ x 2 = nI n ∧ x 3 = nI s ∧ (∀ i, i < n → x (73 + 4 * i) = N i ∧ x (74 + 4 * i) = M i - 97 ∧ x (75 + 4 * i) = L i ∧ x (76 + 4 * i) = D i) ∧
  (∀ i, i < n → mat (M i) ∧ rg (L i) 1 200 ∧ rg (D i) 1 99 ∧ ∃ q, q < s ∧ N i = nI q) ∧ (∀ i j, i < j → j < n → D i < D j ∨ (D i = D j ∧ N i < N j))
def prc (M L : Nat → Int32) : Nat → Int32 × Int32 := fun j => (M j - 97, L j)
def prx (x : Nat → Int32) : Nat → Int32 × Int32 := fun j => (x (121 + 2 * j), x (122 + 2 * j))
def CR (c : Nat) (M L x : Nat → Int32) : Prop :=
  c ≤ 40 ∧ x 4 = nI c ∧ (lf (prc M L) c).Perm (lf (prx x) c) ∧ (∀ i, i < c → mat (M i) ∧ rg (L i) 1 999) ∧ (∀ i j, i < j → j < c → L i ≤ L j)
def AR (W D L T x : Nat → Int32) : Prop := ∀ j, j < 6 → x (9 + j) = W j ∧ x (15 + j) = D j ∧ x (21 + j) = L j ∧ x (27 + j) = T j
def SE (k l r c : Int32) (x : Nat → Int32) : Prop := x 5 = k ∧ x 6 = l ∧ x 7 = r ∧ x 8 = c ∧ rg k 0 5 ∧ rg l 1 50 ∧ (r = 98 ∨ r = 119 ∨ r = 102)
theorem SR_fr {n s : Nat} {N M L K x x' : Nat → Int32} (h : SR n s N M L K x) (e : ∀ j, j < 2 ∨ (33 ≤ j ∧ j < 73) → x' j = x j) : SR n s N M L K x' := by
  obtain ⟨h1, h2, h3, h4, h5, h6⟩ := h
  refine ⟨h1, (e 0 (by omega)).trans h2, (e 1 (by omega)).trans h3, fun i hi => ?_, h5, h6⟩
  rw [e _ (by omega), e _ (by omega), e _ (by omega), e _ (by omega)]
  exact h4 i hi
theorem OR_fr {n s : Nat} {N M L D x x' : Nat → Int32} (h : OR n s N M L D x) (e : ∀ j, (2 ≤ j ∧ j < 4) ∨ (73 ≤ j ∧ j < 121) → x' j = x j) : OR n s N M L D x' := by
  obtain ⟨h1, h2, h3, h4, h5, h6⟩ := h
  refine ⟨h1, (e 2 (by omega)).trans h2, (e 3 (by omega)).trans h3, fun i hi => ?_, h5, h6⟩
  rw [e _ (by omega), e _ (by omega), e _ (by omega), e _ (by omega)]
  exact h4 i hi
theorem CR_fr {c : Nat} {M L x x' : Nat → Int32} (h : CR c M L x) (e : ∀ j, j = 4 ∨ (121 ≤ j ∧ j < 201) → x' j = x j) : CR c M L x' := by
  obtain ⟨h1, h2, h3, h4, h5⟩ := h
  refine ⟨h1, (e 4 (by omega)).trans h2, ?_, h4, h5⟩
  rw [lf_congr (h := prx x') (h' := prx x) c (fun j hj => ?_)]
  · exact h3
  · unfold prx; rw [e _ (by omega), e _ (by omega)]
theorem AR_fr {W D L T x x' : Nat → Int32} (h : AR W D L T x) (e : ∀ j, 9 ≤ j ∧ j < 33 → x' j = x j) : AR W D L T x' := by
  intro j hj
  rw [e _ (by omega), e _ (by omega), e _ (by omega), e _ (by omega)]
  exact h j hj
theorem SE_fr {k l r c : Int32} {x x' : Nat → Int32} (h : SE k l r c x) (e : ∀ j, 5 ≤ j ∧ j < 9 → x' j = x j) : SE k l r c x' := by
  unfold SE
  rw [e 5 (by omega), e 6 (by omega), e 7 (by omega), e 8 (by omega)]
  exact h
theorem SR_cg {n s : Nat} {N M L K N' M' L' K' x : Nat → Int32} (h : SR n s N M L K x) (e : ∀ j, j < n → N' j = N j ∧ M' j = M j ∧ L' j = L j ∧ K' j = K j) : SR n s N' M' L' K' x := by
  obtain ⟨h1, h2, h3, h4, h5, h6⟩ := h
  refine ⟨h1, h2, h3, fun i hi => ?_, fun i hi => ?_, fun i j hi hj => ?_⟩
  · obtain ⟨e1, e2, e3, e4⟩ := e i hi; rw [e1, e2, e3, e4]; exact h4 i hi
  · obtain ⟨e1, e2, e3, e4⟩ := e i hi; rw [e1, e2, e3, e4]; exact h5 i hi
  · rw [(e i (by omega)).1, (e j hj).1]; exact h6 i j hi hj
theorem OR_cg {n s : Nat} {N M L D N' M' L' D' x : Nat → Int32} (h : OR n s N M L D x) (e : ∀ j, j < n → N' j = N j ∧ M' j = M j ∧ L' j = L j ∧ D' j = D j) : OR n s N' M' L' D' x := by
  obtain ⟨h1, h2, h3, h4, h5, h6⟩ := h
  refine ⟨h1, h2, h3, fun i hi => ?_, fun i hi => ?_, fun i j hi hj => ?_⟩
  · obtain ⟨e1, e2, e3, e4⟩ := e i hi; rw [e1, e2, e3, e4]; exact h4 i hi
  · obtain ⟨e1, e2, e3, e4⟩ := e i hi; rw [e1, e2, e3, e4]; exact h5 i hi
  · rw [(e i (by omega)).1, (e j hj).1, (e i (by omega)).2.2.2, (e j hj).2.2.2]; exact h6 i j hi hj
theorem CR_cg {c : Nat} {M L M' L' x : Nat → Int32} (h : CR c M L x) (e : ∀ j, j < c → M' j = M j ∧ L' j = L j) : CR c M' L' x := by
  obtain ⟨h1, h2, h3, h4, h5⟩ := h
  refine ⟨h1, h2, ?_, fun i hi => ?_, fun i j hi hj => ?_⟩
  · rw [lf_congr (h := prc M' L') (h' := prc M L) c (fun j hj => ?_)]
    · exact h3
    · unfold prc; rw [(e j hj).1, (e j hj).2]
  · rw [(e i hi).1, (e i hi).2]; exact h4 i hi
  · rw [(e i (by omega)).2, (e j hj).2]; exact h5 i j hi hj
theorem AR_cg {W D L T W' D' L' T' x : Nat → Int32} (h : AR W D L T x) (e : ∀ j, j < 6 → W' j = W j ∧ D' j = D j ∧ L' j = L j ∧ T' j = T j) : AR W' D' L' T' x := by
  intro j hj
  obtain ⟨e1, e2, e3, e4⟩ := e j hj
  rw [e1, e2, e3, e4]; exact h j hj
theorem nlt {a b : Nat} (h : a < b) (hb : b < 2 ^ 31) : nI a < nI b := nI_lt h hb
theorem SR_add {n s q l : Nat} {N M L K x x' : Nat → Int32} (h : SR n s N M L K x) (hn : n < 10) (hs : s < 1000000) (hq : q < 6) (h10 : 1 ≤ l) (h99 : l ≤ 999)
    (h0 : x' 0 = nI (n + 1)) (h1 : x' 1 = nI (s + 1)) (ha : x' (33 + 4 * n) = nI s) (hb : x' (34 + 4 * n) = nI q) (hc : x' (35 + 4 * n) = nI l) (hd : x' (36 + 4 * n) = 0) (hr : ∀ j, 33 ≤ j → j < 33 + 4 * n → x' j = x j) :
    SR (n + 1) (s + 1) (upd N n (nI s)) (upd M n (nI (97 + q))) (upd L n (nI l)) (upd K n 0) x' := by
  obtain ⟨g1, g2, g3, g4, g5, g6⟩ := h
  refine ⟨by omega, h0, h1, fun i hi => ?_, fun i hi => ?_, fun i j hi hj => ?_⟩
  · simp only [upd_e]
    by_cases e : i = n
    · subst e
      rw [if_pos rfl, if_pos rfl, if_pos rfl, if_pos rfl]
      refine ⟨ha, hb.trans ?_, hc, hd⟩
      have := pk_sub (a := 97 + q) (b := 97) (by omega)
      rw [show 97 + q - 97 = q by omega] at this; exact this.symm
    · rw [if_neg e, if_neg e, if_neg e, if_neg e, hr _ (by omega) (by omega), hr _ (by omega) (by omega), hr _ (by omega) (by omega), hr _ (by omega) (by omega)]
      exact g4 i (by omega)
  · simp only [upd_e]
    by_cases e : i = n
    · subst e
      rw [if_pos rfl, if_pos rfl, if_pos rfl, if_pos rfl]
      exact ⟨⟨q, hq, rfl⟩, ⟨l, 0, h10, h99, rfl, rfl⟩, s, by omega, rfl⟩
    · rw [if_neg e, if_neg e, if_neg e, if_neg e]
      obtain ⟨k1, k2, q, k3, k4⟩ := g5 i (by omega)
      exact ⟨k1, k2, q, by omega, k4⟩
  · simp only [upd_e]
    rw [if_neg (show ¬ i = n by omega)]
    by_cases e : j = n
    · subst e
      obtain ⟨_, _, q, k3, k4⟩ := g5 i hi
      rw [if_pos rfl, k4]; exact nlt k3 (by omega)
    · rw [if_neg e]; exact g6 i j hi (by omega)
theorem SR_del {n s i : Nat} {N M L K x x' : Nat → Int32} (h : SR n s N M L K x) (hi : i < n)
    (h0 : x' 0 = nI (n - 1)) (h1 : x' 1 = x 1) (hr : ∀ j c, j + 1 < n → c < 4 → x' (33 + 4 * j + c) = x (33 + 4 * sh i j + c)) :
    SR (n - 1) s (del N n i) (del M n i) (del L n i) (del K n i) x' := by
  obtain ⟨g1, g2, g3, g4, g5, g6⟩ := h
  refine ⟨by omega, h0, h1.trans g3, fun j hj => ?_, fun j hj => ?_, fun j k hj hk => ?_⟩
  · have hj' : j + 1 < n := by omega
    obtain ⟨k1, k2, k3, k4⟩ := g4 (sh i j) (sh_lt hj')
    rw [del_sh hj', del_sh hj', del_sh hj', del_sh hj']
    refine ⟨?_, ?_, ?_, ?_⟩
    · exact (hr j 0 hj' (by omega)).trans k1
    · have := hr j 1 hj' (by omega); rw [show 34 + 4 * j = 33 + 4 * j + 1 by omega, this, show 33 + 4 * sh i j + 1 = 34 + 4 * sh i j by omega]; exact k2
    · have := hr j 2 hj' (by omega); rw [show 35 + 4 * j = 33 + 4 * j + 2 by omega, this, show 33 + 4 * sh i j + 2 = 35 + 4 * sh i j by omega]; exact k3
    · have := hr j 3 hj' (by omega); rw [show 36 + 4 * j = 33 + 4 * j + 3 by omega, this, show 33 + 4 * sh i j + 3 = 36 + 4 * sh i j by omega]; exact k4
  · have hj' : j + 1 < n := by omega
    rw [del_sh hj', del_sh hj', del_sh hj', del_sh hj']
    exact g5 _ (sh_lt hj')
  · rw [del_sh (show j + 1 < n by omega), del_sh (show k + 1 < n by omega)]
    exact g6 _ _ (sh_mono hj) (sh_lt (by omega))
theorem SR_shr {n s i a k : Nat} {N M L K x x' : Nat → Int32} (h : SR n s N M L K x) (hi : i < n) (ha : 1 ≤ a) (hk : K i = nI k) (hak : a + k + 1 ≤ 999)
    (h0 : x' 0 = x 0) (h1 : x' 1 = x 1) (hl : x' (35 + 4 * i) = nI a) (hc : x' (36 + 4 * i) = nI (k + 1)) (hr : ∀ j, 33 ≤ j → j < 73 → j ≠ 35 + 4 * i → j ≠ 36 + 4 * i → x' j = x j) :
    SR n s N M (upd L i (nI a)) (upd K i (K i + 1)) x' := by
  obtain ⟨g1, g2, g3, g4, g5, g6⟩ := h
  refine ⟨g1, h0.trans g2, h1.trans g3, fun j hj => ?_, fun j hj => ?_, g6⟩
  · obtain ⟨k1, k2, k3, k4⟩ := g4 j hj
    refine ⟨(hr _ (by omega) (by omega) (by omega) (by omega)).trans k1, (hr _ (by omega) (by omega) (by omega) (by omega)).trans k2, ?_, ?_⟩
    · simp only [upd_e]
      by_cases e : j = i
      · subst e; rw [if_pos rfl]; exact hl
      · rw [if_neg e]; exact (hr _ (by omega) (by omega) (by omega) (by omega)).trans k3
    · simp only [upd_e]
      by_cases e : j = i
      · subst e; rw [if_pos rfl, hk, nI_1]; exact hc
      · rw [if_neg e]; exact (hr _ (by omega) (by omega) (by omega) (by omega)).trans k4
  · simp only [upd_e]
    obtain ⟨k1, k2, k3⟩ := g5 j hj
    refine ⟨k1, ?_, k3⟩
    by_cases e : j = i
    · subst e
      rw [if_pos rfl, if_pos rfl, hk, nI_1]
      exact ⟨a, k + 1, ha, by omega, rfl, rfl⟩
    · rw [if_neg e, if_neg e]; exact k2
theorem OR_del {n s i : Nat} {N M L D x x' : Nat → Int32} (h : OR n s N M L D x) (hi : i < n)
    (h0 : x' 2 = nI (n - 1)) (h1 : x' 3 = x 3) (hr : ∀ j c, j + 1 < n → c < 4 → x' (73 + 4 * j + c) = x (73 + 4 * sh i j + c)) :
    OR (n - 1) s (del N n i) (del M n i) (del L n i) (del D n i) x' := by
  obtain ⟨g1, g2, g3, g4, g5, g6⟩ := h
  refine ⟨by omega, h0, h1.trans g3, fun j hj => ?_, fun j hj => ?_, fun j k hj hk => ?_⟩
  · have hj' : j + 1 < n := by omega
    obtain ⟨k1, k2, k3, k4⟩ := g4 (sh i j) (sh_lt hj')
    rw [del_sh hj', del_sh hj', del_sh hj', del_sh hj']
    refine ⟨?_, ?_, ?_, ?_⟩
    · exact (hr j 0 hj' (by omega)).trans k1
    · have := hr j 1 hj' (by omega); rw [show 74 + 4 * j = 73 + 4 * j + 1 by omega, this, show 73 + 4 * sh i j + 1 = 74 + 4 * sh i j by omega]; exact k2
    · have := hr j 2 hj' (by omega); rw [show 75 + 4 * j = 73 + 4 * j + 2 by omega, this, show 73 + 4 * sh i j + 2 = 75 + 4 * sh i j by omega]; exact k3
    · have := hr j 3 hj' (by omega); rw [show 76 + 4 * j = 73 + 4 * j + 3 by omega, this, show 73 + 4 * sh i j + 3 = 76 + 4 * sh i j by omega]; exact k4
  · have hj' : j + 1 < n := by omega
    rw [del_sh hj', del_sh hj', del_sh hj', del_sh hj']
    exact g5 _ (sh_lt hj')
  · rw [del_sh (show j + 1 < n by omega), del_sh (show k + 1 < n by omega), del_sh (show j + 1 < n by omega), del_sh (show k + 1 < n by omega)]
    exact g6 _ _ (sh_mono hj) (sh_lt (by omega))
theorem ins_lt {f : Nat → Int32} {m i j : Nat} {v : Int32} (h : j < i) : ins f m i v j = f j := if_pos h
theorem ins_eq {f : Nat → Int32} {m i : Nat} {v : Int32} : ins f m i v i = v := by unfold ins; rw [if_neg (Nat.lt_irrefl _), if_pos rfl]
theorem ins_gt {f : Nat → Int32} {m i j : Nat} {v : Int32} (h : i < j) (hm : j ≤ m) : ins f m i v j = f (j - 1) := by unfold ins; rw [if_neg (by omega), if_neg (by omega), if_pos hm]
theorem OR_add {n s p q l d : Nat} {N M L D x x' : Nat → Int32} (h : OR n s N M L D x) (hn : n < 12) (hs : s < 1000000) (hq : q < 6) (hl : 1 ≤ l) (hl2 : l ≤ 200) (hd : 1 ≤ d) (hd2 : d ≤ 99)
    (hp : p = pos (fun j => nI d < D j) n)
    (h0 : x' 2 = nI (n + 1)) (h1 : x' 3 = nI (s + 1)) (ha : x' (73 + 4 * p) = nI s) (hb : x' (74 + 4 * p) = nI q) (hc : x' (75 + 4 * p) = nI l) (he : x' (76 + 4 * p) = nI d)
    (hr : ∀ j c, j < p → c < 4 → x' (73 + 4 * j + c) = x (73 + 4 * j + c)) (hr2 : ∀ j c, p < j → j ≤ n → c < 4 → x' (73 + 4 * j + c) = x (73 + 4 * (j - 1) + c)) :
    OR (n + 1) (s + 1) (ins N n p (nI s)) (ins M n p (nI (97 + q))) (ins L n p (nI l)) (ins D n p (nI d)) x' := by
  obtain ⟨g1, g2, g3, g4, g5, g6⟩ := h
  have hpn : p ≤ n := by rw [hp]; exact pos_le
  have hpb : ∀ j, j < p → ¬ nI d < D j := by rw [hp]; exact pos_bf
  have hpa : p < n → nI d < D p := by rw [hp]; exact pos_at
  refine ⟨by omega, h0, h1, fun j hj => ?_, fun j hj => ?_, fun j k hj hk => ?_⟩
  · rcases Nat.lt_trichotomy j p with e | e | e
    · rw [ins_lt e, ins_lt e, ins_lt e, ins_lt e]
      obtain ⟨k1, k2, k3, k4⟩ := g4 j (by omega)
      refine ⟨(hr j 0 e (by omega)).trans k1, ?_, ?_, ?_⟩
      · have := hr j 1 e (by omega); rw [show 74 + 4 * j = 73 + 4 * j + 1 by omega, this, show 73 + 4 * j + 1 = 74 + 4 * j by omega]; exact k2
      · have := hr j 2 e (by omega); rw [show 75 + 4 * j = 73 + 4 * j + 2 by omega, this, show 73 + 4 * j + 2 = 75 + 4 * j by omega]; exact k3
      · have := hr j 3 e (by omega); rw [show 76 + 4 * j = 73 + 4 * j + 3 by omega, this, show 73 + 4 * j + 3 = 76 + 4 * j by omega]; exact k4
    · subst e
      rw [ins_eq, ins_eq, ins_eq, ins_eq]
      refine ⟨ha, hb.trans ?_, hc, he⟩
      have := pk_sub (a := 97 + q) (b := 97) (by omega)
      rw [show 97 + q - 97 = q by omega] at this; exact this.symm
    · rw [ins_gt e (by omega), ins_gt e (by omega), ins_gt e (by omega), ins_gt e (by omega)]
      obtain ⟨k1, k2, k3, k4⟩ := g4 (j - 1) (by omega)
      refine ⟨(hr2 j 0 e (by omega) (by omega)).trans k1, ?_, ?_, ?_⟩
      · have := hr2 j 1 e (by omega) (by omega); rw [show 74 + 4 * j = 73 + 4 * j + 1 by omega, this, show 73 + 4 * (j - 1) + 1 = 74 + 4 * (j - 1) by omega]; exact k2
      · have := hr2 j 2 e (by omega) (by omega); rw [show 75 + 4 * j = 73 + 4 * j + 2 by omega, this, show 73 + 4 * (j - 1) + 2 = 75 + 4 * (j - 1) by omega]; exact k3
      · have := hr2 j 3 e (by omega) (by omega); rw [show 76 + 4 * j = 73 + 4 * j + 3 by omega, this, show 73 + 4 * (j - 1) + 3 = 76 + 4 * (j - 1) by omega]; exact k4
  · rcases Nat.lt_trichotomy j p with e | e | e
    · rw [ins_lt e, ins_lt e, ins_lt e, ins_lt e]
      obtain ⟨k1, k2, k3, q, k4, k5⟩ := g5 j (by omega)
      exact ⟨k1, k2, k3, q, by omega, k5⟩
    · subst e
      rw [ins_eq, ins_eq, ins_eq, ins_eq]
      exact ⟨⟨q, hq, rfl⟩, ⟨l, hl, hl2, rfl⟩, ⟨d, hd, hd2, rfl⟩, s, by omega, rfl⟩
    · rw [ins_gt e (by omega), ins_gt e (by omega), ins_gt e (by omega), ins_gt e (by omega)]
      obtain ⟨k1, k2, k3, q, k4, k5⟩ := g5 (j - 1) (by omega)
      exact ⟨k1, k2, k3, q, by omega, k5⟩
  · have ole : ∀ {a b : Nat}, a < b → b < n → D a ≤ D b := fun {a b} h1 h2 => by
      rcases g6 a b h1 h2 with r | r
      · exact Int32.le_of_lt r
      · rw [r.1]; exact Int32.le_refl _
    rcases Nat.lt_trichotomy k p with e | e | e
    · rw [ins_lt e, ins_lt e, ins_lt (show j < p by omega), ins_lt (show j < p by omega)]
      exact g6 j k hj (by omega)
    · subst e
      rw [ins_eq, ins_eq, ins_lt hj, ins_lt hj]
      have hle := Int32.not_lt.mp (hpb j hj)
      obtain ⟨_, _, _, q, k4, k5⟩ := g5 j (by omega)
      by_cases hE : D j = nI d
      · exact Or.inr ⟨hE, by rw [k5]; exact nlt k4 (by omega)⟩
      · exact Or.inl (Int32.lt_of_le_of_ne hle hE)
    · rw [ins_gt e (by omega), ins_gt e (by omega)]
      have hlt : nI d < D (k - 1) := by
        have h1 := hpa (by omega)
        by_cases hk1 : k - 1 = p
        · rw [hk1]; exact h1
        · exact Int32.lt_of_lt_of_le h1 (ole (show p < k - 1 by omega) (by omega))
      rcases Nat.lt_trichotomy j p with f | f | f
      · rw [ins_lt f, ins_lt f]; exact g6 j (k - 1) (by omega) (by omega)
      · subst f; rw [ins_eq, ins_eq]; exact Or.inl hlt
      · rw [ins_gt f (by omega), ins_gt f (by omega)]; exact g6 (j - 1) (k - 1) (by omega) (by omega)
