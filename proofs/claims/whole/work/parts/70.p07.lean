/-! pure layer: the choice of a spool; sums and counts; throwing scraps away -/
theorem sub_lt0 {a b : Nat} (ha : a < 2 ^ 30) (hb : b < 2 ^ 30) : nI a - nI b < 0 ↔ a < b := by
  rw [Int32.lt_iff_toInt_lt, pk_sub_toInt ha hb, show (0 : Int32).toInt = 0 from rfl]; omega
theorem sub_le0 {a b : Nat} (ha : a < 2 ^ 30) (hb : b < 2 ^ 30) : nI a - nI b ≤ 0 ↔ a ≤ b := by
  rw [Int32.le_iff_toInt_le, pk_sub_toInt ha hb, show (0 : Int32).toInt = 0 from rfl]; omega
theorem sub_eq0 {a b : Nat} (ha : a < 2 ^ 30) (hb : b < 2 ^ 30) : nI a - nI b = 0 ↔ a = b := by
  rw [← Int32.toInt_inj, pk_sub_toInt ha hb, show (0 : Int32).toInt = 0 from rfl]; omega
theorem m_btr {x : Nat → Int32} {i q a b : Nat} {r : Int32} (hi : i < 11) (hq : q < 11) (ha : x (35 + 4 * i) = nI a) (hb : x (35 + 4 * q) = nI b) (la : a ≤ 999) (lb : b ≤ 999) (h7 : x 7 = r) :
    fX13_isBetter x (nI i) (nI q) = some (if prf r (nI a) (nI b) = true then 1 else 0) := by
  unfold fX13_isBetter prf
  rw [m_sp2 hi, ob, m_sp2 hq, ob, ha, hb, h7]
  by_cases e1 : r = 98
  · have e2 : ¬ r = 119 := by rw [e1]; decide
    rw [if_pos e1, if_pos e1, if_neg e2]
    by_cases l : a < b
    · rw [if_pos ((sub_lt0 (by omega) (by omega)).mpr l), if_pos (decide_eq_true (nI_ge l (by omega)))]
    · rw [if_neg (fun q => l ((sub_lt0 (by omega) (by omega)).mp q)), if_neg (by simp [nI_leI (show b < 2 ^ 31 by omega) (show a < 2 ^ 31 by omega)]; omega)]
  · rw [if_neg e1, if_neg e1]
    by_cases e2 : r = 119
    · rw [if_pos e2, if_pos e2]
      by_cases l : a ≤ b
      · rw [if_pos ((sub_le0 (by omega) (by omega)).mpr l), if_neg (by simp [nI_leI (show a < 2 ^ 31 by omega) (show b < 2 ^ 31 by omega)]; omega)]
      · rw [if_neg (fun q => l ((sub_le0 (by omega) (by omega)).mp q)), if_pos (decide_eq_true (nI_ge (by omega) (by omega)))]
    · rw [if_neg e2, if_neg e2]; rfl
theorem m_spf_L {n s a : Nat} {N M L K x : Nat → Int32} {om ol r : Int32} (h : SR n s N M L K x) (ha : a < 13) (h1 : x (74 + 4 * a) = om - 97) (h2 : x (75 + 4 * a) = ol) (h7 : x 7 = r) : ∀ (d k i : Nat) (b : Option Nat), d < k → i + d = n → (∀ q, b = some q → q < n) →
    fX13_spoolFor_L4 (nI a) x k (oI b) (nI i) = some (oI (fld (chz (fun j => M j = om ∧ ¬ L j < ol) L r) d i b)) := by
  obtain ⟨g1, g2, g3, g4, g5, g6⟩ := h
  intro d
  induction d with
  | zero =>
    intro k i b hk hi hb
    obtain ⟨k, rfl⟩ : ∃ q, k = q + 1 := ⟨k - 1, by omega⟩
    rw [fX13_spoolFor_L4, g2, if_pos (nI_le (by omega) (by omega))]; rfl
  | succ d ih =>
    intro k i b hk hi hb
    obtain ⟨k, rfl⟩ : ∃ q, k = q + 1 := ⟨k - 1, by omega⟩
    obtain ⟨w1, w2, w3, w4⟩ := g4 i (by omega)
    obtain ⟨_, ⟨la, lk, v1, v2, v3, v4⟩, _⟩ := g5 i (by omega)
    rw [fX13_spoolFor_L4, g2, if_neg (nI_ge (by omega) (by omega)), m_sp1 (by omega), ob, m_or1 ha, ob, m_sp2 (by omega), ob, m_or2 ha, ob, nI_1, tl_fld, w2, w3, h1, h2]
    by_cases e1 : M i = om
    · rw [if_pos (by rw [e1])]
      by_cases e2 : L i < ol
      · rw [if_neg (Int32.not_le.mpr e2), ih _ _ _ (by omega) (by omega) hb, chz_n (fun q => q.2 e2)]
      · rw [if_pos (Int32.not_lt.mp e2)]
        cases b with
        | none => rw [chz_0 ⟨e1, e2⟩, if_pos (show oI none < 0 by decide)]; exact ih _ _ (some i) (by omega) (by omega) (fun q e => by injection e with e; omega)
        | some q =>
          have hq := hb q rfl
          obtain ⟨_, _, y3, _⟩ := g4 q hq
          obtain ⟨_, ⟨lb, _, u1, u2, u3, _⟩, _⟩ := g5 q hq
          rw [chz_s ⟨e1, e2⟩, if_neg (show ¬ oI (some q) < 0 from nI_pos (by omega)), show oI (some q) = nI q from rfl, m_btr (by omega) (by omega) (w3.trans v3) (y3.trans u3) (by omega) (by omega) h7, ob, v3, u3]
          by_cases e3 : prf r (nI la) (nI lb) = true
          · rw [if_pos e3, if_neg (by decide), if_pos e3]; exact ih _ _ (some i) (by omega) (by omega) (fun q e => by injection e with e; omega)
          · rw [if_neg e3, if_pos rfl, if_neg e3]; exact ih _ _ (some q) (by omega) (by omega) hb
    · rw [if_neg (fun q => e1 (sub97 q)), ih _ _ _ (by omega) (by omega) hb, chz_n (fun q => e1 q.1)]
theorem m_spf {n s a : Nat} {N M L K x : Nat → Int32} {om ol r : Int32} (h : SR n s N M L K x) (ha : a < 13) (h1 : x (74 + 4 * a) = om - 97) (h2 : x (75 + 4 * a) = ol) (h7 : x 7 = r) :
    fX13_spoolFor x (nI a) = some (oI (fld (chz (fun j => M j = om ∧ ¬ L j < ol) L r) n 0 none)) :=
  m_spf_L h ha h1 h2 h7 n FU 0 none (FU_lt (by have := h.1; omega)) (by omega) (fun q e => by cases e)
def chG (P : Nat → Prop) (n : Nat) (b : Option Nat) : Prop := match b with
  | none => ∀ j, j < n → ¬ P j
  | some q => q < n ∧ P q
theorem chz_fld {P : Nat → Prop} [DecidablePred P] {L : Nat → Int32} {r : Int32} : ∀ (n : Nat), chG P n (fld (chz P L r) n 0 none) := by
  intro n
  induction n with
  | zero => exact fun j hj => absurd hj (Nat.not_lt_zero _)
  | succ n ih =>
    rw [fld_snoc, Nat.zero_add]
    generalize fld (chz P L r) n 0 none = b at ih ⊢
    by_cases hP : P n
    · cases b with
      | none => rw [chz_0 hP]; exact ⟨by omega, hP⟩
      | some q =>
        rw [chz_s hP]
        split
        · exact ⟨by omega, hP⟩
        · have := ih.1
          exact ⟨by omega, ih.2⟩
    · rw [chz_n hP]
      cases b with
      | none =>
        intro j hj
        by_cases e : j = n
        · subst e; exact hP
        · exact ih j (by omega)
      | some q =>
        have := ih.1
        exact ⟨by omega, ih.2⟩
theorem fld_if {P : Nat → Prop} [DecidablePred P] {v : Nat → Int32} (d i : Nat) (a : Int32) : fld (fun b j => if P j then b + v j else b) d i a = fld (fun b j => b + (if P j then v j else 0)) d i a := by
  refine fld_congr d i a fun j _ _ b => ?_
  by_cases h : P j
  · rw [if_pos h, if_pos h]
  · rw [if_neg h, if_neg h, Int32.add_zero]
def gq (m : Int32) : Int32 × Int32 → Int32 := fun e => if e.1 = m then e.2 else 0
def g1 (m : Int32) : Int32 × Int32 → Int32 := fun e => if e.1 = m then 1 else 0
theorem cs_sum {c : Nat} {M L : Nat → Int32} {m : Int32} : fld (fun b j => if M j = m then b + L j else b) c 0 0 = smQ (gq (m - 97)) (lf (prc M L) c) := by
  rw [fld_if, ← Int32.zero_add (smQ _ _), ← fld_smQ]
  refine fld_congr _ _ _ fun j _ _ b => ?_
  unfold gq prc
  by_cases h : M j = m
  · rw [if_pos h, if_pos (by rw [h])]
  · rw [if_neg h, if_neg (fun q => h (sub97 q))]
theorem cs_cnt {c : Nat} {M L : Nat → Int32} {m : Int32} : fld (fun b j => if M j = m then b + 1 else b) c 0 0 = smQ (g1 (m - 97)) (lf (prc M L) c) := by
  rw [fld_if (v := fun _ => 1), ← Int32.zero_add (smQ _ _), ← fld_smQ]
  refine fld_congr _ _ _ fun j _ _ b => ?_
  unfold g1 prc
  by_cases h : M j = m
  · rw [if_pos h, if_pos (by rw [h])]
  · rw [if_neg h, if_neg (fun q => h (sub97 q))]
theorem fl_self {l : List (Int32 × Int32)} {p : Int32 × Int32 → Bool} (h : ∀ e ∈ l, p e = true) : l.filter p = l := List.filter_eq_self.mpr h
def nq (m : Int32) : Int32 × Int32 → Bool := fun e => decide (¬ e.1 = m)
theorem sc_ta_L {q : Nat} {s : Int32} {T : Nat → Int32} (hq : q < 6) : ∀ (d k c : Nat) (M L : Nat → Int32), d < k → d ≤ c → c ≤ 40 → CS c M L → (∀ j, d ≤ j → j < c → ¬ M j = nI (97 + q)) →
    ∃ c' M' L', fX8_throwAll_L16 (nI (97 + q)) s 6 T k (nI d + (-1)) (nI c) M (nI c) L = some (s, nI c', M', nI c', L', upd T q (T q + s)) ∧ c' ≤ c ∧ CS c' M' L' ∧ (∀ j, j < c' → ¬ M' j = nI (97 + q)) ∧ ((lf (prc M L) c).filter (nq (nI q))).Perm ((lf (prc M' L') c').filter (nq (nI q))) := by
  intro d
  induction d with
  | zero =>
    intro k c M L hk hd hc hS hM
    obtain ⟨k, rfl⟩ : ∃ q, k = q + 1 := ⟨k - 1, by omega⟩
    refine ⟨c, M, L, ?_, Nat.le_refl _, hS, fun j hj => hM j (Nat.zero_le _) hj, List.Perm.refl _⟩
    rw [fX8_throwAll_L16, if_pos (by decide), fX12_placeOf, ob, m97 hq, show (6 : Int32) = nI 6 from rfl, row_inc hq (Nat.le_refl _) (by omega), ob]
  | succ d ih =>
    intro k c M L hk hd hc hS hM
    obtain ⟨k, rfl⟩ : ∃ q, k = q + 1 := ⟨k - 1, by omega⟩
    rw [fX8_throwAll_L16, pk_m1, if_neg (nI_pos (by omega)), row_get (by omega) hc (by omega), ob]
    by_cases e : M d = nI (97 + q)
    · rw [if_pos e, sc_del hc (by omega), ob]
      obtain ⟨c', M', L', r1, r2, r3, r4, r5⟩ := ih k (c - 1) (del M c d) (del L c d) (by omega) (by omega) (by omega) (CS_del hS (by omega)) (fun j h1 h2 => by
        rw [del_sh (by omega)]
        unfold sh; rw [if_pos h1]; exact hM _ (by omega) (by omega))
      refine ⟨c', M', L', r1, by omega, r3, r4, List.Perm.trans ?_ r5⟩
      refine ((pc_del (p := d) (by omega)).filter _).trans ?_
      rw [List.filter_cons_of_neg (by unfold nq prc; rw [e, m97 hq]; simp)]
    · rw [if_neg e]
      exact ih k c M L (by omega) (by omega) hc hS (fun j h1 h2 => by
        by_cases f : j = d
        · subst f; exact e
        · exact hM j (by omega) h2)
theorem sc_ta {q c : Nat} {M L T : Nat → Int32} (hq : q < 6) (hc : c ≤ 40) (hS : CS c M L) :
    ∃ c' M' L', fX8_throwAll (nI c) M (nI c) L 6 T (nI (97 + q)) = some (smQ (gq (nI q)) (lf (prc M L) c), nI c', M', nI c', L', upd T q (T q + smQ (gq (nI q)) (lf (prc M L) c))) ∧ c' ≤ c ∧ CS c' M' L' ∧ (∀ j, j < c' → ¬ M' j = nI (97 + q)) ∧ ((lf (prc M L) c).filter (nq (nI q))).Perm ((lf (prc M' L') c').filter (nq (nI q))) := by
  obtain ⟨c', M', L', r1, r2, r3, r4, r5⟩ := sc_ta_L (s := smQ (gq (nI q)) (lf (prc M L) c)) (T := T) hq c FU c M L (FU_lt (by omega)) (Nat.le_refl _) hc hS (fun j h1 h2 => by omega)
  refine ⟨c', M', L', ?_, r2, r3, r4, r5⟩
  unfold fX8_throwAll
  rw [sc_sum hc, ob, fX7_size, ob, cs_sum, m97 hq, Int32.sub_eq_add_neg]
  exact r1
theorem m_cr_L {q : Nat} (hq : q < 6) : ∀ (d k i c : Nat) (x : Nat → Int32) (a : Int32), d < k → i + d = c → c ≤ 40 → x 4 = nI c → (∀ j, j < i → ¬ x (121 + 2 * j) = nI q) →
    ∃ c' x', fX13_clears_L4 (nI q) k a (nI i) x = some (a + smQ (gq (nI q)) (lf (prx x) c), upd x' (27 + q) (x' (27 + q) + (a + smQ (gq (nI q)) (lf (prx x) c)))) ∧ c' ≤ c ∧ x' 4 = nI c' ∧ (∀ j, j < c' → ¬ x' (121 + 2 * j) = nI q) ∧ ((lf (prx x) c).filter (nq (nI q))).Perm ((lf (prx x') c').filter (nq (nI q))) ∧ (∀ j, j ≠ 4 → j < 121 → x' j = x j) := by
  intro d
  induction d with
  | zero =>
    intro k i c x a hk hi hc h4 hM
    obtain ⟨k, rfl⟩ : ∃ q, k = q + 1 := ⟨k - 1, by omega⟩
    refine ⟨c, x, ?_, Nat.le_refl _, h4, fun j hj => hM j (by omega), List.Perm.refl _, fun _ _ _ => rfl⟩
    have e0 : smQ (gq (nI q)) (lf (prx x) c) = 0 := smQ_fil (p := nq (nI q)) (fun e he => by unfold nq at he; unfold gq; rw [if_neg (of_decide_eq_true he)]) _ (fun e he => by
      obtain ⟨j, hj, rfl⟩ := (lf_mem c).mp he
      exact decide_eq_true (hM j (by omega)))
    rw [fX13_clears_L4, h4, if_pos (nI_le (by omega) (by omega)), show (27 : Int32) = nI 27 from rfl, nI_add, gd_t (inR_n (by omega) (by omega)), gd_t (inR_n (by omega) (by omega)), nI_clamp (by omega), e0, Int32.add_zero]
  | succ d ih =>
    intro k i c x a hk hi hc h4 hM
    obtain ⟨k, rfl⟩ : ∃ q, k = q + 1 := ⟨k - 1, by omega⟩
    rw [fX13_clears_L4, h4, if_neg (nI_ge (by omega) (by omega)), m_sc0 (by omega), ob]
    by_cases e : x (121 + 2 * i) = nI q
    · rw [if_pos e, m_sc1 (by omega), ob, m_rc hc h4 (by omega), ob]
      have hsh : ∀ j, j + 1 < c → prx (upd (clz x (121 + 2 * i) 2 (121 + 2 * c)) 4 (nI (c - 1))) j = prx x (sh i j) := by
        intro j hj
        unfold prx sh
        rw [pk_un (show 121 + 2 * j ≠ 4 by omega), pk_un (show 122 + 2 * j ≠ 4 by omega)]
        unfold clz
        by_cases f : i ≤ j
        · rw [if_pos (show 121 + 2 * i ≤ 121 + 2 * j ∧ 121 + 2 * j + 2 < 121 + 2 * c by omega), if_pos (show 121 + 2 * i ≤ 122 + 2 * j ∧ 122 + 2 * j + 2 < 121 + 2 * c by omega), if_pos f]
          exact Prod.ext (congrArg x (by omega)) (congrArg x (by omega))
        · rw [if_neg (show ¬ (121 + 2 * i ≤ 121 + 2 * j ∧ 121 + 2 * j + 2 < 121 + 2 * c) by omega), if_neg (show ¬ (121 + 2 * i ≤ 122 + 2 * j ∧ 122 + 2 * j + 2 < 121 + 2 * c) by omega), if_neg (show ¬ (121 + 2 * c ≤ 121 + 2 * j + 2 ∧ 121 + 2 * j < 121 + 2 * c) by omega), if_neg (show ¬ (121 + 2 * c ≤ 122 + 2 * j + 2 ∧ 122 + 2 * j < 121 + 2 * c) by omega), if_neg f]
      obtain ⟨c', x', r1, r2, r3, r4, r5, r6⟩ := ih k i (c - 1) (upd (clz x (121 + 2 * i) 2 (121 + 2 * c)) 4 (nI (c - 1))) (a + x (122 + 2 * i)) (by omega) (by omega) (by omega) pk_us (fun j hj => by
        have := congrArg Prod.fst (hsh j (by omega))
        unfold prx sh at this
        rw [if_neg (show ¬ i ≤ j by omega)] at this
        rw [show upd (clz x (121 + 2 * i) 2 (121 + 2 * c)) 4 (nI (c - 1)) (121 + 2 * j) = x (121 + 2 * j) from this]
        exact hM j hj)
      have ep := px_del (x := x) (c := c) (q := i) (by omega)
      rw [← lf_congr (h := prx (upd (clz x (121 + 2 * i) 2 (121 + 2 * c)) 4 (nI (c - 1)))) (h' := fun j => prx x (sh i j)) (c - 1) (fun j hj => hsh j (by omega))] at ep
      have es := smQ_perm (g := gq (nI q)) ep
      replace es : smQ (gq (nI q)) (lf (prx x) c) = x (122 + 2 * i) + smQ (gq (nI q)) (lf (prx (upd (clz x (121 + 2 * i) 2 (121 + 2 * c)) 4 (nI (c - 1)))) (c - 1)) := by
        rw [es]
        show (if x (121 + 2 * i) = nI q then x (122 + 2 * i) else 0) + _ = _
        rw [if_pos e]
      rw [Int32.add_assoc, ← es] at r1
      refine ⟨c', x', r1, by omega, r3, r4, List.Perm.trans ?_ r5, fun j h1 h2 => (r6 j h1 h2).trans ?_⟩
      · refine (ep.filter _).trans ?_
        rw [List.filter_cons_of_neg (by unfold nq prx; rw [e]; simp)]
      · rw [pk_un h1, clz_0 (by omega) (by omega)]
    · rw [if_neg e, nI_1]
      exact ih k (i + 1) c x a (by omega) (by omega) hc h4 (fun j hj => by
        by_cases f : j = i
        · subst f; exact e
        · exact hM j (by omega))
theorem S_thr {q c : Nat} {M L T W D A x : Nat → Int32} (hq : q < 6) (h : CR c M L x) (hA : AR W D A T x) :
    ∃ S c' M' L' x', fX8_throwAll (nI c) M (nI c) L 6 T (nI (97 + q)) = some (S, nI c', M', nI c', L', upd T q (T q + S)) ∧ fX13_clears x (nI q) = some (S, x') ∧ CR c' M' L' x' ∧ AR W D A (upd T q (T q + S)) x' ∧ (∀ j, j ≠ 4 → j < 121 → j ≠ 27 + q → x' j = x j) := by
  obtain ⟨g1, g2, g3, g4, g5⟩ := h
  obtain ⟨c1, M', L', r1, r2, r3, r4, r5⟩ := sc_ta (T := T) hq g1 ⟨g4, g5⟩
  obtain ⟨c2, x', s1, s2, s3, s4, s5, s6⟩ := m_cr_L hq c FU 0 c x 0 (FU_lt (by omega)) (by omega) g1 g2 (fun j hj => absurd hj (Nat.not_lt_zero _))
  have eS : smQ (gq (nI q)) (lf (prx x) c) = smQ (gq (nI q)) (lf (prc M L) c) := (smQ_perm g3).symm
  rw [Int32.zero_add, eS] at s1
  have p1 : (lf (prc M' L') c1).filter (nq (nI q)) = lf (prc M' L') c1 := fl_self (fun e he => by
    obtain ⟨j, hj, rfl⟩ := (lf_mem c1).mp he
    refine decide_eq_true (fun k => r4 j hj (sub97 ?_))
    rw [m97 hq]; exact k)
  have p2 : (lf (prx x') c2).filter (nq (nI q)) = lf (prx x') c2 := fl_self (fun e he => by
    obtain ⟨j, hj, rfl⟩ := (lf_mem c2).mp he
    exact decide_eq_true (s4 j hj))
  have pm : (lf (prc M' L') c1).Perm (lf (prx x') c2) := by
    rw [← p1, ← p2]
    exact (r5.symm.trans (g3.filter _)).trans s5
  have ec : c1 = c2 := by
    have := pm.length_eq
    rwa [lf_len, lf_len] at this
  subst ec
  have fr : ∀ j, j ≠ 4 → j < 121 → j ≠ 27 + q → upd x' (27 + q) (x' (27 + q) + smQ (gq (nI q)) (lf (prc M L) c)) j = x j := fun j h1 h2 h3 => by
    rw [pk_un h3]; exact s6 j h1 h2
  refine ⟨_, c1, M', L', _, r1, s1, ⟨by omega, ?_, ?_, r3.1, r3.2⟩, ?_, fr⟩
  · rw [pk_un (by omega)]; exact s3
  · rw [lf_congr (h := prx (upd x' (27 + q) (x' (27 + q) + smQ (gq (nI q)) (lf (prc M L) c)))) (h' := prx x') c1 (fun j hj => by unfold prx; rw [pk_un (by omega), pk_un (by omega)])]; exact pm
  · intro j hj
    obtain ⟨k1, k2, k3, k4⟩ := hA j hj
    refine ⟨(fr _ (by omega) (by omega) (by omega)).trans k1, (fr _ (by omega) (by omega) (by omega)).trans k2, (fr _ (by omega) (by omega) (by omega)).trans k3, ?_⟩
    simp only [upd_e]
    by_cases e : j = q
    · subst e; rw [if_pos rfl, if_pos rfl, s6 _ (by omega) (by omega), k4]
    · rw [if_neg (by omega), if_neg e, s6 _ (by omega) (by omega), k4]
