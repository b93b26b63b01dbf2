/-! pure layer: floating point answers -/
theorem n64_of {r : UInt64} (h : FP.Core.dIsNaN r = false) : n64 r = true := by
  refine decide_eq_true ?_
  have h1 : ¬ 9218868437227405312 < r.toNat % 2 ^ 63 := fun q => by
    rw [(FP.Core.isNaN_bits r).mpr q] at h; cases h
  rw [UInt64.le_iff_toNat_le, UInt64.toNat_and, show (0x7fffffffffffffff : UInt64).toNat = 2 ^ 63 - 1 from rfl, Nat.and_two_pow_sub_one_eq_mod]
  show _ ≤ 9218868437227405312
  omega
theorem n32_of {r : UInt32} (h : FP.Core.fIsNaN r = false) : n32 r = true := by
  refine decide_eq_true ?_
  have h1 : ¬ 2139095040 < r.toNat % 2 ^ 31 := fun q => by
    rw [(FP.Core.isNaN_bits32 r).mpr q] at h; cases h
  rw [UInt32.le_iff_toNat_le, UInt32.toNat_and, show (0x7fffffff : UInt32).toNat = 2 ^ 31 - 1 from rfl, Nat.and_two_pow_sub_one_eq_mod]
  show _ ≤ 2139095040
  omega
theorem dz_i2d {v : Int32} (h : v ≠ 0) : ¬ FP.Core.DZero (FP.Core.i2d v) := fun hz => FP.Core.i2d_ne_zero h ((FP.Core.zero_bits2 _).mp hz)
theorem fz_i2f {v : Int32} (h : v ≠ 0) : ¬ FP.Core.FZero (FP.Core.i2f v) := fun hz => FP.Core.i2f_ne_zero h ((FP.Core.zero_bits232 _).mp hz)
theorem dnn {a b : Int32} (h : b ≠ 0) : FP.Core.dIsNaN (FP.Core.ddiv (FP.Core.i2d a) (FP.Core.i2d b)) = false := FP.Core.ddiv_out (FP.Core.i2d_fin a).notNaN (FP.Core.i2d_fin b) (dz_i2d h)
theorem fnn {a b : Int32} (h : b ≠ 0) : FP.Core.fIsNaN (FP.Core.fdiv (FP.Core.i2f a) (FP.Core.i2f b)) = false := FP.Core.fdiv_out (FP.Core.i2f_fin a).notNaN (FP.Core.i2f_fin b) (fz_i2f h)
theorem d_n64 {a b : Int32} (h : b ≠ 0) : n64 (FP.ddiv (FP.i2d a) (FP.i2d b)) = true := n64_of (dnn h)
theorem d_self {a b : Int32} (h : b ≠ 0) : FP.dcmp (FP.ddiv (FP.i2d a) (FP.i2d b)) (FP.ddiv (FP.i2d a) (FP.i2d b)) = some .eq := FP.Core.dcmp_self ((FP.Core.notNaN_iff _).mp (dnn h))
theorem f_n32 {a b : Int32} (h : b ≠ 0) : n32 (FP.fdiv (FP.i2f a) (FP.i2f b)) = true := n32_of (fnn h)
theorem f_dn {a b : Int32} (h : b ≠ 0) : FP.Core.dIsNaN (FP.f2d (FP.fdiv (FP.i2f a) (FP.i2f b))) = false := by
  have h1 : FP.Core.fIsNaN (FP.fdiv (FP.i2f a) (FP.i2f b)) = false := fnn (a := a) h
  unfold FP.f2d
  rw [h1]
  exact FP.Core.f2d_out h1
theorem f_self {a b : Int32} (h : b ≠ 0) : FP.dcmp (FP.f2d (FP.fdiv (FP.i2f a) (FP.i2f b))) (FP.f2d (FP.fdiv (FP.i2f a) (FP.i2f b))) = some .eq := FP.Core.dcmp_self ((FP.Core.notNaN_iff _).mp (f_dn (a := a) h))
theorem n64_vf {r : UInt64} (h : n64 r = true) : vf_n64 r := (of_decide_eq_true h : r &&& 0x7fffffffffffffff ≤ 0x7ff0000000000000)
theorem f_n64 {a b : Int32} (h : b ≠ 0) : vf_n64 (FP.f2d (FP.fdiv (FP.i2f a) (FP.i2f b))) := n64_vf (n64_of (f_dn (a := a) h))
theorem l2f_i (x : Int32) : FP.l2f x.toInt64 = FP.i2f x := (FP.Core.i2f_l2f x).symm
theorem kxA : kx ["java/lang/ArithmeticException"] (.error "java/lang/ArithmeticException" : Except String UInt64) = some 1 := by decide
theorem kxA2 : kx ["java/lang/ArithmeticException"] (.error "java/lang/ArithmeticException" : Except String UInt32) = some 1 := by decide
theorem m_mr {n s : Nat} {N M L K x : Nat → Int32} (h : SR n s N M L K x) (h0 : 0 < n) : ∀ (d k i : Nat) (a : Int32), d < k → i + d = n →
    fX13_meanRemaining_L25 0 x k a (nI i) = some (FP.ddiv (FP.i2d (fld (fun b j => b + L j) d i a)) (FP.i2d (nI n)), 0) := by
  have hn := h.1
  intro d
  induction d with
  | zero =>
    intro k i a hk hi
    obtain ⟨k, rfl⟩ : ∃ q, k = q + 1 := ⟨k - 1, by omega⟩
    rw [fX13_meanRemaining_L25, h.2.1, if_pos (nI_le (by omega) (by omega)), gd_t (d_n64 (nI_ne0 h0 (by omega)))]; rfl
  | succ d ih =>
    intro k i a hk hi
    obtain ⟨k, rfl⟩ : ∃ q, k = q + 1 := ⟨k - 1, by omega⟩
    rw [fX13_meanRemaining_L25, h.2.1, if_neg (nI_ge (by omega) (by omega)), m_sp2 (by omega), ob, nI_1, tl_fld, (h.2.2.2.1 i (by omega)).2.2.1]
    exact ih _ _ _ (by omega) (by omega)
theorem q_mean {b : Nat} {w : WT} {x : Nat → Int32} (h : WR b w x) : ∃ a r, fX12_meanRemaining (wt_sNn w) (wt_sLn w) (wt_sLf w) = some a ∧ fX13_meanRemaining x = some r ∧ AG ["java/lang/ArithmeticException"] a r.2 (fun w => w = r.1 ∧ FP.dcmp w w = some .eq) := by
  obtain ⟨n, s, m, o, c, k, l, r, ac, N, M, L, K, cM, cL, T, oN, oM, oL, oD, W, D, A, rfl, h1, h2, h3, h4, h5, h6⟩ := h
  have hn := h1.1
  show ∃ a r, fX12_meanRemaining (nI n) (nI n) L = some a ∧ _
  unfold fX12_meanRemaining fX13_meanRemaining fX9_count fX7_size fX9_sumOfLengths
  rw [h1.2.1]
  by_cases h0 : n = 0
  · subst h0
    exact ⟨_, _, rfl, rfl, kxA, show (1 : Int32) ≠ 0 by decide⟩
  · have e := m_mr h1 (by omega) n FU 0 0 (FU_lt (by omega)) (by omega)
    have hne : nI n ≠ 0 := nI_ne0 (by omega) (by omega)
    rw [ob, ob, if_pos (show (0 : Int32) < nI n from nI_lt (a := 0) (by omega) (by omega)), row_sum hn (by omega), ob, ob, gd_t (d_n64 hne), if_neg hne]
    exact ⟨_, _, rfl, e, rfl, rfl, d_self hne⟩
theorem nI_sm {d : Nat → Nat} {D : Nat → Int32} (h : ∀ j, j < 6 → D j = nI (d j)) : fld (fun b j => b + D j) 6 0 0 = nI (dsum d) := by
  show (((((0 + D 0) + D 1) + D 2) + D 3) + D 4) + D 5 = _
  rw [h 0 (by omega), h 1 (by omega), h 2 (by omega), h 3 (by omega), h 4 (by omega), h 5 (by omega), Int32.zero_add, nI_add, nI_add, nI_add, nI_add, nI_add]; rfl
theorem q_loss {b : Nat} {w : WT} {x : Nat → Int32} (h : WR b w x) : ∃ a r, fX12_lossRate (wt_aDn w) (wt_aDf w) (wt_aLn w) (wt_aLf w) = some a ∧ fX13_lossRate x = some r ∧ AG ["java/lang/ArithmeticException"] a r.2 (fun w => w = r.1 ∧ vf_n64 (FP.f2d w) ∧ FP.dcmp (FP.f2d w) (FP.f2d w) = some .eq) := by
  obtain ⟨n, s, m, o, c, k, l, r, ac, N, M, L, K, cM, cL, T, oN, oM, oL, oD, W, D, A, rfl, h1, h2, h3, h4, h5, h6, h7, h8, ⟨d, a, d1, d2, d3⟩, h10⟩ := h
  show ∃ a r, fX12_lossRate (nI 6) D (nI 6) A = some a ∧ _
  unfold fX12_lossRate fX13_lossRate
  rw [m_sD h4, m_sA h4, s6, s6, ob, ob, ob, nI_sm (fun j hj => (d1 j hj).1), l2f_i]
  have hd : dsum d < 2 ^ 31 := by omega
  by_cases h0 : dsum d = 0
  · rw [h0, if_neg (by decide), if_pos (show nI 0 = 0 from rfl)]
    exact ⟨_, _, rfl, rfl, kxA2, show (1 : Int32) ≠ 0 by decide⟩
  · have hne : nI (dsum d) ≠ 0 := nI_ne0 (by omega) hd
    have hc : (0 : Int32) < lg_cmp (nI (dsum d)).toInt64 0 := by
      unfold lg_cmp
      rw [if_pos (show (nI (dsum d)).toInt64 > 0 by
        show (0 : Int64) < (nI (dsum d)).toInt64
        rw [Int64.lt_iff_toInt_lt, Int32.toInt_toInt64, nI_toInt hd, show (0 : Int64).toInt = 0 from rfl]; omega)]
      decide
    rw [if_pos hc, if_neg hne, ob, ob, gd_t (f_n32 hne), gd_t (f_n32 hne)]
    exact ⟨_, _, rfl, rfl, rfl, rfl, f_n64 hne, f_self hne⟩
