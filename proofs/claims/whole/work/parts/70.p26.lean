/-! pure layer: the line -/
def caps (q : Nat) : Prop := q = 16 ∨ q = 34 ∨ q = 70 ∨ q = 142 ∨ q = 286
def TL (l q : Nat) (v : Nat → Int32) : Prop := caps q ∧ l ≤ q ∧ ∀ j, j < q → ∃ a : Nat, a < 128 ∧ v j = nI a
theorem fitA : ∀ a : Nat, a < 128 → fits .byte (.int (nI a)) = true := by decide +kernel
theorem fens_ok {l r q : Nat} {v : Nat → Int32} (h : TL l q v) (hr : r ≤ l + 18) (hr2 : r ≤ 286) :
    ∃ q' v', fens q v (nI r) = some (q', v') ∧ caps q' ∧ r ≤ q' ∧ (∀ j, j < q' → ∃ a : Nat, a < 128 ∧ v' j = nI a) ∧ (∀ j, j < l → v' j = v j) := by
  obtain ⟨h1, h2, h3⟩ := h
  unfold fens
  have hq : q ≤ 286 := by unfold caps at h1; omega
  by_cases g : r ≤ q
  · rw [if_pos ((sub_le0 (by omega) (by omega)).mpr g)]
    exact ⟨q, v, rfl, h1, g, h3, fun _ _ => rfl⟩
  · have hq2 : q ≤ 142 ∧ 16 ≤ q := by unfold caps at h1; omega
    rw [if_neg (fun e => g ((sub_le0 (by omega) (by omega)).mp e))]
    have em : mx32 (nI r - nI q) (nI q + 2) = nI (q + 2) := by
      show (if nI r - nI q < nI q + nI 2 then nI q + nI 2 else nI r - nI q) = _
      rw [pk_sub (by omega), nI_add]
      by_cases e : r - q < q + 2
      · rw [if_pos (nI_lt e (by omega))]
      · rw [if_neg (nI_nlt (by omega) (by omega))]; congr 1; omega
    have e1 : fJ5_newCapacity_0f7a4 q (nI r) = some (nI (2 * q + 2)) := by
      unfold fJ5_newCapacity_0f7a4 fJ8_newLength_cabcc
      rw [em, nI_add, if_neg (nI_nle (by omega) (by omega)), if_neg (show ¬ (2147483639 : Int32) < nI (q + (q + 2)) from nI_nlt (b := q + (q + 2)) (a := 2147483639) (by omega) (by omega)), ob, if_neg (show ¬ nI (q + (q + 2)) = 2147483647 from fun e => by have := (nI_eq (b := 2147483647) (by omega) (by omega)).mp e; omega)]
      congr 2; omega
    have ef : fitB q v = true := by
      unfold fitB
      refine List.all_eq_true.mpr fun i hi => ?_
      obtain ⟨a, ha, e⟩ := h3 i (List.mem_range.mp hi)
      rw [e]; exact fitA a ha
    have e2 : fJ7_copyOf_9075b q v (nI (2 * q + 2)) = some (2 * q + 2, va_cpy v (fun _ => 0) 0 0 q) := by
      unfold fJ7_copyOf_9075b
      have hmn : mn32 (nI q) (nI (2 * q + 2)) = nI q := if_neg (nI_nlt (by omega) (by omega))
      rw [nI_clamp (by omega), gd_t (decide_eq_true ⟨nI_pos (by omega), fun e => by have := (nI_eq (by omega) (by omega)).mp e; omega, hmn, by omega, by omega, by omega⟩), gd_t ef]
    rw [e1, ob, e2, ob, gd_t (decide_eq_true (Nat.le_refl _))]
    refine ⟨_, _, rfl, ?_, by omega, fun j hj => ?_, fun j hj => ?_⟩
    · unfold caps at h1 ⊢; omega
    · by_cases e : j < q
      · rw [pk_cpy_in (Nat.zero_le _) (by omega), Nat.zero_add, Nat.sub_zero]; exact h3 j e
      · rw [pk_cpy_out (by omega)]; exact ⟨0, by omega, rfl⟩
    · rw [pk_cpy_in (Nat.zero_le _) (by omega), Nat.zero_add, Nat.sub_zero]
def TS (l q : Nat) (v ln : Nat → Int32) : Prop := TL l q v ∧ ∀ j, j < l → ln j = v j
theorem byA : ∀ a : Nat, a < 128 → vp_nar .byte (nI a).toInt8.toInt32 = nI a ∧ vp_nar .char (((nI a).toUInt32 % 65536).toInt32) = nI a ∧ ¬ (255 : Int32) < nI a := by decide +kernel
theorem m_wr {l a : Nat} {ln : Nat → Int32} (hl : l < 200) (ha : a < 128) : fX13_writes (nI l) ln (nI a) = some (nI (l + 1), upd ln l (nI a)) := by
  unfold fX13_writes
  rw [gd_t (inR_n hl (by omega)), nI_clamp (by omega), nI_1, (byA a ha).2.1]
theorem TS_up {l q a : Nat} {v ln : Nat → Int32} (h1 : caps q) (h2 : l + 1 ≤ q) (h3 : ∀ j, j < q → ∃ a : Nat, a < 128 ∧ v j = nI a) (h4 : ∀ j, j < l → ln j = v j) (ha : a < 128) : TS (l + 1) q (upd v l (nI a)) (upd ln l (nI a)) := by
  refine ⟨⟨h1, h2, fun j hj => ?_⟩, fun j hj => ?_⟩
  · by_cases e : j = l
    · subst e; exact ⟨a, ha, pk_us⟩
    · rw [pk_un e]; exact h3 j hj
  · by_cases e : j = l
    · subst e; rw [pk_us, pk_us]
    · rw [pk_un e, pk_un e]; exact h4 j (by omega)
theorem w_C {l q a : Nat} {v ln : Nat → Int32} (h : TS l q v ln) (hl : l + 1 ≤ 190) (ha : a < 128) :
    ∃ q' v' ln', fapC (nI l) q v (nI a) = some (nI (l + 1), q', v') ∧ fX13_writes (nI l) ln (nI a) = some (nI (l + 1), ln') ∧ TS (l + 1) q' v' ln' := by
  obtain ⟨q', v', e1, e2, e3, e4, e5⟩ := fens_ok (r := l + 1) h.1 (by omega) (by omega)
  have hq : q' ≤ 286 := by unfold caps at e2; omega
  refine ⟨q', upd v' l (nI a), upd ln l (nI a), ?_, m_wr (by omega) ha, TS_up e2 e3 e4 (fun j hj => (h.2 j hj).trans (e5 j hj).symm) ha⟩
  unfold fapC fJ1_canEncode_fc78d
  rw [nI_1, e1, ob, if_neg (byA a ha).2.2, ob, gd_t (show ne0 1 = true by decide), gd_t (inR_n (by omega) (by omega)), nI_clamp (by omega), (byA a ha).1]
def dgn (v : Nat) : Nat := if v < 10 then 1 else if v < 100 then 2 else if v < 1000 then 3 else 4
theorem by_hund {P : Nat → Prop} (h : ∀ q : Nat, q < 62 → ∀ r : Nat, r < 100 → P (100 * q + r)) : ∀ v : Nat, v < 6200 → P v := fun v hv => by
  have := h (v / 100) (by omega) (v % 100) (by omega)
  rwa [Nat.div_add_mod] at this
theorem ssz : ∀ v : Nat, v < 6200 → fJ6_stringSize_0f7a4 (nI v) = some (nI (dgn v)) := by_hund (P := fun v => fJ6_stringSize_0f7a4 (nI v) = some (nI (dgn v))) (by decide +kernel)
theorem gG1 : ∀ v : Nat, v < 100 → (-100 : Int32) < -(nI v) := by decide +kernel
theorem gG2 : ∀ v : Nat, v < 10 → (-9 : Int32) ≤ -(nI v) := by decide +kernel
theorem gG3 : ∀ v : Nat, v < 100 → 10 ≤ v → ¬ (-9 : Int32) ≤ -(nI v) := by decide +kernel
theorem gG4 : ∀ v : Nat, v < 6200 → 100 ≤ v → ¬ (-100 : Int32) < -(nI v) ∧ -(nI v) / 100 = -(nI (v / 100)) ∧ ((-(nI v) / 100) * 100) - -(nI v) = nI (v % 100) := by_hund (P := fun v => 100 ≤ v → ¬ (-100 : Int32) < -(nI v) ∧ -(nI v) / 100 = -(nI (v / 100)) ∧ ((-(nI v) / 100) * 100) - -(nI v) = nI (v % 100)) (by decide +kernel)
theorem gDg : ∀ a : Nat, a < 100 → vp_nar .byte (dOnes a) = nI (48 + a % 10) ∧ vp_nar .byte (dTens a) = nI (48 + a / 10) := by decide +kernel
theorem c_g1 {v e q k : Nat} {vv : Nat → Int32} (hv : v < 10) (he : e + 1 ≤ q) (hq : q ≤ 290) : fJ6_getChars_ba4f3_L22 0 q (k + 1) (-(nI v)) (nI (e + 1)) vv = some (nI e, upd vv e (nI (48 + v))) := by
  rw [fJ6_getChars_ba4f3_L22, if_pos (gG1 v (by omega)), Int32.neg_neg, gd_t (inR_n (show v < 100 by omega) (by omega)), pk_m1, gd_t (inR_n (show e < q by omega) (by omega)), if_pos (gG2 v hv), if_pos rfl, nI_clamp (by omega), nI_clamp (by omega), (gDg v (by omega)).1, Nat.mod_eq_of_lt hv]
theorem c_g2 {v e q k : Nat} {vv : Nat → Int32} (hv : v < 100) (hv2 : 10 ≤ v) (he : e + 2 ≤ q) (hq : q ≤ 290) : fJ6_getChars_ba4f3_L22 0 q (k + 1) (-(nI v)) (nI (e + 2)) vv = some (nI e, upd (upd vv (e + 1) (nI (48 + v % 10))) e (nI (48 + v / 10))) := by
  have e1 : nI (e + 2) + (-1) = nI (e + 1) := pk_m1 (e + 1)
  rw [fJ6_getChars_ba4f3_L22, if_pos (gG1 v hv), Int32.neg_neg, gd_t (inR_n hv (by omega)), e1, pk_m1, gd_t (inR_n (show e + 1 < q by omega) (by omega)), if_neg (gG3 v hv hv2), gd_t (inR_n hv (by omega)), gd_t (inR_n (show e < q by omega) (by omega)), if_pos rfl, nI_clamp (by omega), nI_clamp (by omega), nI_clamp (by omega), (gDg v hv).1, (gDg v hv).2]
theorem c_g3 {v e q k : Nat} {vv : Nat → Int32} (hv : v < 6200) (hv2 : 100 ≤ v) (he : e + 2 ≤ q) (hq : q ≤ 290) : fJ6_getChars_ba4f3_L22 0 q (k + 1) (-(nI v)) (nI (e + 2)) vv = fJ6_getChars_ba4f3_L22 0 q k (-(nI (v / 100))) (nI e) (upd (upd vv (e + 1) (nI (48 + v % 10))) e (nI (48 + v / 10 % 10))) := by
  have e1 : nI (e + 2) + (-1) = nI (e + 1) := pk_m1 (e + 1)
  obtain ⟨g1, g2, g3⟩ := gG4 v hv hv2
  have h100 : v % 100 < 100 := Nat.mod_lt _ (by omega)
  rw [fJ6_getChars_ba4f3_L22, if_neg g1, g3, e1, pk_m1, gd_t (inR_n h100 (by omega)), gd_t (inR_n (show e + 1 < q by omega) (by omega)), gd_t (inR_n h100 (by omega)), gd_t (inR_n (show e < q by omega) (by omega)), nI_clamp (by omega), nI_clamp (by omega), nI_clamp (by omega), (gDg _ h100).1, (gDg _ h100).2, g2, show v % 100 % 10 = v % 10 by omega, show v % 100 / 10 = v / 10 % 10 by omega]
theorem m_w20 {v P l k : Nat} {ln : Nat → Int32} (hv : v < 6200) (hP : 0 < P) (hP2 : P < 10000) (hl : l < 200) : fX13_writesNumber_L20 (nI v) (k + 1) (nI P) (nI l) ln = fX13_writesNumber_L20 (nI v) k (nI (P / 10)) (nI (l + 1)) (upd ln l (nI (48 + v / P % 10))) := by
  have h1 : v / P < 2 ^ 31 := Nat.lt_of_le_of_lt (Nat.div_le_self _ _) (by omega)
  have h2 : (10 : Int32) = nI 10 := rfl
  have e1 : nI (v / P) - nI (v / P) / 10 * 10 = nI (v / P % 10) := pk_rem (d := 10) h1 (by omega) (by omega)
  have e2 : nI P / 10 = nI (P / 10) := pk_div (d := 10) (by omega) (by omega) (by omega)
  rw [fX13_writesNumber_L20, if_neg (nI_nle hP (by omega)), gd_t (show ne0 (nI P) = true from decide_eq_true (nI_ne0 hP (by omega))), pk_div (by omega) hP (by omega), e1, e2, show (48 : Int32) = nI 48 from rfl, nI_add, m_wr hl (by omega), ob]
theorem m_w20e {v k : Nat} {l : Int32} {ln : Nat → Int32} : fX13_writesNumber_L20 (nI v) (k + 1) (nI 0) l ln = some (l, ln) := by
  rw [fX13_writesNumber_L20, if_pos (by decide)]
theorem m_w2 {v P k : Nat} {l : Int32} {ln : Nat → Int32} (hv : v < 6200) (hP : 0 < P) (hP2 : P < 10000) : fX13_writesNumber_L2 (nI v) l ln (k + 1) (nI P) = if v / P ≤ 9 then fX13_writesNumber_L20 (nI v) FU (nI P) l ln else fX13_writesNumber_L2 (nI v) l ln k (nI (P * 10)) := by
  have h1 : v / P < 2 ^ 31 := Nat.lt_of_le_of_lt (Nat.div_le_self _ _) (by omega)
  rw [fX13_writesNumber_L2, gd_t (show ne0 (nI P) = true from decide_eq_true (nI_ne0 hP (by omega))), pk_div (by omega) hP (by omega), show (10 : Int32) = nI 10 from rfl, pk_mul]
  by_cases g : v / P ≤ 9
  · rw [if_pos g, if_pos (show nI (v / P) ≤ 9 from nI_le (b := 9) g (by omega))]
  · rw [if_neg g, if_neg (show ¬ nI (v / P) ≤ 9 from nI_ge (a := 9) (by omega) h1)]
