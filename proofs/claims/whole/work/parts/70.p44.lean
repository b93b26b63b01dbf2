/-! pure layer: a command of a program, executed by the class -/
theorem ex_k {α β : Type} {v : α} {f : String → Option β} {k : α → Option β} : exC (.ok v) f k = k v := rfl
theorem ex_r {α β : Type} {e : String} {f : String → Option β} {k : α → Option β} : exC (.error e) f k = f e := rfl
theorem bd2 {α β γ δ : Type} (o : Option α) (f : α → Option β) (g : β → Option γ) (f' : α → Option δ) (g' : δ → Option γ) (h : ∀ z, (f z).bind g = (f' z).bind g') : (o.bind f).bind g = (o.bind f').bind g' := by
  cases o with
  | none => rfl
  | some z => exact h z
theorem bd_id {α : Type} (o : Option α) : (o.bind fun z => some z) = o := by cases o <;> rfl
theorem bd_id2 {α β : Type} (o : Option (α × β)) : (o.bind fun z => some (z.1, z.2)) = o := by cases o <;> rfl
theorem ite_bd {α β : Type} {c : Prop} [Decidable c] {a b : Option α} {g : α → Option β} : (if c then a else b).bind g = if c then a.bind g else b.bind g := by
  by_cases h : c
  · rw [if_pos h, if_pos h]
  · rw [if_neg h, if_neg h]
def toU (z : (Except String Int32) × WT) : (Except String Unit) × WT := (match z.1 with
  | .error e => .error e
  | .ok _ => .ok (), z.2)
theorem exe_0 (w : WT) (cl cf cs : Int32) : hX11_execute w (some 0) cl cf cs = (hX11_windSpool w cl cf).bind fun z => some (toU z) := by
  unfold hX11_execute hX11_windSpool fX11_execute
  rw [oM_k, gd_t (show ltN 0 10 = true from rfl), gd_t (inR_n (show 0 < 10 by omega) (by omega)), show Int32.ofNat ((nI 0).toNatClampNeg + 1) = 1 from by decide +kernel]
  rw [if_pos (show (1 : Int32) = 1 from rfl)]
  refine bd2 _ _ _ _ _ fun z => ?_
  rcases z with ⟨e | v, z⟩ <;> rfl
theorem exe_1 (w : WT) (cl cf cs : Int32) : hX11_execute w (some 1) cl cf cs = (hX11_takeOrder w cl cf cs).bind fun z => some (toU z) := by
  unfold hX11_execute hX11_takeOrder fX11_execute
  rw [oM_k, gd_t (show ltN 1 10 = true from rfl), gd_t (inR_n (show 1 < 10 by omega) (by omega)), show Int32.ofNat ((nI 1).toNatClampNeg + 1) = 2 from by decide +kernel]
  rw [if_neg (show ¬ (2 : Int32) = 1 by decide), if_pos (show (2 : Int32) = 2 from rfl)]
  refine bd2 _ _ _ _ _ fun z => ?_
  rcases z with ⟨e | v, z⟩ <;> rfl
theorem exe_2 (w : WT) (cl cf cs : Int32) : hX11_execute w (some 2) cl cf cs = (hX11_cancelOrder w cf).bind fun z => some (toU z) := by
  unfold hX11_execute hX11_cancelOrder fX11_execute
  rw [oM_k, gd_t (show ltN 2 10 = true from rfl), gd_t (inR_n (show 2 < 10 by omega) (by omega)), show Int32.ofNat ((nI 2).toNatClampNeg + 1) = 3 from by decide +kernel]
  rw [if_neg (show ¬ (3 : Int32) = 1 by decide), if_neg (show ¬ (3 : Int32) = 2 by decide), if_pos (show (3 : Int32) = 3 from rfl)]
  refine bd2 _ _ _ _ _ fun z => ?_
  rcases z with ⟨e | v, z⟩ <;> rfl
theorem exe_3 (w : WT) (cl cf cs : Int32) : hX11_execute w (some 3) cl cf cs = (hX11_fillOrder w cf).bind fun z => some (toU z) := by
  unfold hX11_execute hX11_fillOrder fX11_execute
  rw [oM_k, gd_t (show ltN 3 10 = true from rfl), gd_t (inR_n (show 3 < 10 by omega) (by omega)), show Int32.ofNat ((nI 3).toNatClampNeg + 1) = 4 from by decide +kernel]
  rw [if_neg (show ¬ (4 : Int32) = 1 by decide), if_neg (show ¬ (4 : Int32) = 2 by decide), if_neg (show ¬ (4 : Int32) = 3 by decide), if_pos (show (4 : Int32) = 4 from rfl)]
  refine bd2 _ _ _ _ _ fun z => ?_
  rcases z with ⟨e | v, z⟩ <;> rfl
theorem exe_4 (w : WT) (cl cf cs : Int32) : hX11_execute w (some 4) cl cf cs = (hX11_fillUntil w cf).bind fun z => some (toU z) := by
  unfold hX11_execute hX11_fillUntil fX11_execute
  rw [oM_k, gd_t (show ltN 4 10 = true from rfl), gd_t (inR_n (show 4 < 10 by omega) (by omega)), show Int32.ofNat ((nI 4).toNatClampNeg + 1) = 5 from by decide +kernel]
  rw [if_neg (show ¬ (5 : Int32) = 1 by decide), if_neg (show ¬ (5 : Int32) = 2 by decide), if_neg (show ¬ (5 : Int32) = 3 by decide), if_neg (show ¬ (5 : Int32) = 4 by decide), if_pos (show (5 : Int32) = 5 from rfl)]
  refine bd2 _ _ _ _ _ fun z => ?_
  rcases z with ⟨e | v, z⟩ <;> rfl
theorem exe_5 (w : WT) (cl cf cs : Int32) : hX11_execute w (some 5) cl cf cs = (hX11_retireSpool w cf).bind fun z => some (toU z) := by
  unfold hX11_execute hX11_retireSpool fX11_execute
  rw [oM_k, gd_t (show ltN 5 10 = true from rfl), gd_t (inR_n (show 5 < 10 by omega) (by omega)), show Int32.ofNat ((nI 5).toNatClampNeg + 1) = 6 from by decide +kernel]
  rw [if_neg (show ¬ (6 : Int32) = 1 by decide), if_neg (show ¬ (6 : Int32) = 2 by decide), if_neg (show ¬ (6 : Int32) = 3 by decide), if_neg (show ¬ (6 : Int32) = 4 by decide), if_neg (show ¬ (6 : Int32) = 5 by decide), if_pos (show (6 : Int32) = 6 from rfl)]
  refine bd2 _ _ _ _ _ fun z => ?_
  rcases z with ⟨e | v, z⟩ <;> rfl
theorem exe_6 (w : WT) (cl cf cs : Int32) : hX11_execute w (some 6) cl cf cs = (hX11_clearScraps w cl).bind fun z => some (toU z) := by
  unfold hX11_execute hX11_clearScraps fX11_execute
  rw [oM_k, gd_t (show ltN 6 10 = true from rfl), gd_t (inR_n (show 6 < 10 by omega) (by omega)), show Int32.ofNat ((nI 6).toNatClampNeg + 1) = 7 from by decide +kernel]
  rw [if_neg (show ¬ (7 : Int32) = 1 by decide), if_neg (show ¬ (7 : Int32) = 2 by decide), if_neg (show ¬ (7 : Int32) = 3 by decide), if_neg (show ¬ (7 : Int32) = 4 by decide), if_neg (show ¬ (7 : Int32) = 5 by decide), if_neg (show ¬ (7 : Int32) = 6 by decide), if_pos (show (7 : Int32) = 7 from rfl)]
  refine bd2 _ _ _ _ _ fun z => ?_
  rcases z with ⟨e | v, z⟩ <;> rfl
theorem exe_7 (w : WT) (cl cf cs : Int32) : hX11_execute w (some 7) cl cf cs = (hX11_changeKerf w cf).bind fun z => some (toU z) := by
  unfold hX11_execute hX11_changeKerf fX11_execute
  rw [oM_k, gd_t (show ltN 7 10 = true from rfl), gd_t (inR_n (show 7 < 10 by omega) (by omega)), show Int32.ofNat ((nI 7).toNatClampNeg + 1) = 8 from by decide +kernel]
  rw [if_neg (show ¬ (8 : Int32) = 1 by decide), if_neg (show ¬ (8 : Int32) = 2 by decide), if_neg (show ¬ (8 : Int32) = 3 by decide), if_neg (show ¬ (8 : Int32) = 4 by decide), if_neg (show ¬ (8 : Int32) = 5 by decide), if_neg (show ¬ (8 : Int32) = 6 by decide), if_neg (show ¬ (8 : Int32) = 7 by decide), if_pos (show (8 : Int32) = 8 from rfl)]
  refine bd2 _ _ _ _ _ fun z => ?_
  rcases z with ⟨e | v, z⟩ <;> rfl
theorem exe_8 (w : WT) (cl cf cs : Int32) : hX11_execute w (some 8) cl cf cs = (hX11_changeScrapLimit w cf).bind fun z => some (toU z) := by
  unfold hX11_execute hX11_changeScrapLimit fX11_execute
  rw [oM_k, gd_t (show ltN 8 10 = true from rfl), gd_t (inR_n (show 8 < 10 by omega) (by omega)), show Int32.ofNat ((nI 8).toNatClampNeg + 1) = 9 from by decide +kernel]
  rw [if_neg (show ¬ (9 : Int32) = 1 by decide), if_neg (show ¬ (9 : Int32) = 2 by decide), if_neg (show ¬ (9 : Int32) = 3 by decide), if_neg (show ¬ (9 : Int32) = 4 by decide), if_neg (show ¬ (9 : Int32) = 5 by decide), if_neg (show ¬ (9 : Int32) = 6 by decide), if_neg (show ¬ (9 : Int32) = 7 by decide), if_neg (show ¬ (9 : Int32) = 8 by decide), if_pos (show (9 : Int32) = 9 from rfl)]
  refine bd2 _ _ _ _ _ fun z => ?_
  rcases z with ⟨e | v, z⟩ <;> rfl
theorem exe_9 (w : WT) (cl cf cs : Int32) : hX11_execute w (some 9) cl cf cs = (hX11_changeRule w cl).bind fun z => some (toU z) := by
  unfold hX11_execute hX11_changeRule fX11_execute
  rw [oM_k, gd_t (show ltN 9 10 = true from rfl), gd_t (inR_n (show 9 < 10 by omega) (by omega)), show Int32.ofNat ((nI 9).toNatClampNeg + 1) = 10 from by decide +kernel]
  rw [if_neg (show ¬ (10 : Int32) = 1 by decide), if_neg (show ¬ (10 : Int32) = 2 by decide), if_neg (show ¬ (10 : Int32) = 3 by decide), if_neg (show ¬ (10 : Int32) = 4 by decide), if_neg (show ¬ (10 : Int32) = 5 by decide), if_neg (show ¬ (10 : Int32) = 6 by decide), if_neg (show ¬ (10 : Int32) = 7 by decide), if_neg (show ¬ (10 : Int32) = 8 by decide), if_neg (show ¬ (10 : Int32) = 9 by decide), if_pos (show (10 : Int32) = 10 from rfl)]
  refine bd2 _ _ _ _ _ fun z => ?_
  rcases z with ⟨e | v, z⟩ <;> rfl
abbrev hsuc (w : WT) (K : Nat → CT) (p : Option Nat) : Option ((Except String Int32) × WT) := (fX12_succeeds (wt_k w) (wt_l w) (wt_r w) (wt_sx w) (wt_sNn w) (wt_sNf w) (wt_sMn w) (wt_sMf w) (wt_sLn w) (wt_sLf w) (wt_sKn w) (wt_sKf w) (wt_cMn w) (wt_cMf w) (wt_cLn w) (wt_cLf w) (wt_cTn w) (wt_cTf w) (wt_ox w) (wt_oNn w) (wt_oNf w) (wt_oMn w) (wt_oMf w) (wt_oLn w) (wt_oLf w) (wt_oDn w) (wt_oDf w) (wt_ac w) (wt_aWn w) (wt_aWf w) (wt_aDn w) (wt_aDf w) (wt_aLn w) (wt_aLf w) K p).bind fun r => some (r.1, (r.2.1, r.2.2.1, r.2.2.2.1, r.2.2.2.2.1, r.2.2.2.2.2.1, r.2.2.2.2.2.2.1, r.2.2.2.2.2.2.2.1, r.2.2.2.2.2.2.2.2.1, r.2.2.2.2.2.2.2.2.2.1, r.2.2.2.2.2.2.2.2.2.2.1, r.2.2.2.2.2.2.2.2.2.2.2.1, r.2.2.2.2.2.2.2.2.2.2.2.2.1, r.2.2.2.2.2.2.2.2.2.2.2.2.2.1, r.2.2.2.2.2.2.2.2.2.2.2.2.2.2.1, r.2.2.2.2.2.2.2.2.2.2.2.2.2.2.2.1, r.2.2.2.2.2.2.2.2.2.2.2.2.2.2.2.2.1, (wt_cTn w), r.2.2.2.2.2.2.2.2.2.2.2.2.2.2.2.2.2.1, r.2.2.2.2.2.2.2.2.2.2.2.2.2.2.2.2.2.2.1, r.2.2.2.2.2.2.2.2.2.2.2.2.2.2.2.2.2.2.2.1, r.2.2.2.2.2.2.2.2.2.2.2.2.2.2.2.2.2.2.2.2.1, r.2.2.2.2.2.2.2.2.2.2.2.2.2.2.2.2.2.2.2.2.2.1, r.2.2.2.2.2.2.2.2.2.2.2.2.2.2.2.2.2.2.2.2.2.2.1, r.2.2.2.2.2.2.2.2.2.2.2.2.2.2.2.2.2.2.2.2.2.2.2.1, r.2.2.2.2.2.2.2.2.2.2.2.2.2.2.2.2.2.2.2.2.2.2.2.2.1, r.2.2.2.2.2.2.2.2.2.2.2.2.2.2.2.2.2.2.2.2.2.2.2.2.2.1, r.2.2.2.2.2.2.2.2.2.2.2.2.2.2.2.2.2.2.2.2.2.2.2.2.2.2.1, r.2.2.2.2.2.2.2.2.2.2.2.2.2.2.2.2.2.2.2.2.2.2.2.2.2.2.2.1, (wt_aWn w), r.2.2.2.2.2.2.2.2.2.2.2.2.2.2.2.2.2.2.2.2.2.2.2.2.2.2.2.2.1, (wt_aDn w), r.2.2.2.2.2.2.2.2.2.2.2.2.2.2.2.2.2.2.2.2.2.2.2.2.2.2.2.2.2.1, (wt_aLn w), r.2.2.2.2.2.2.2.2.2.2.2.2.2.2.2.2.2.2.2.2.2.2.2.2.2.2.2.2.2.2))
theorem hsuc_ex {w : WT} {K : Nat → CT} {j k : Nat} {cl cf cs cn : Int32} (hj : j < 12) (hK : K j = (some k, cl, cf, cs, cn)) : hsuc w K (some j) = (hX11_execute w (some k) cl cf cs).bind fun z => exC z.1 (fun e => if e = "java/lang/IllegalArgumentException" then some (.ok 0, z.2) else if e = "java/lang/IllegalStateException" then some (.ok 0, z.2) else if e = "java/util/NoSuchElementException" then some (.ok 0, z.2) else if e = "java/lang/UnsupportedOperationException" then some (.ok 0, z.2) else none) fun _ => some (.ok 1, z.2) := by
  unfold hsuc fX12_succeeds hX11_execute
  rw [oM_k, gd_t (show ltN j 12 = true from decide_eq_true hj), hK]
  dsimp only
  rw [oM_k]
  refine bd2 _ _ _ _ _ fun z => ?_
  rcases z with ⟨e | v, z⟩
  · show (if e = "java/lang/IllegalArgumentException" then _ else if e = "java/lang/IllegalStateException" then _ else if e = "java/util/NoSuchElementException" then _ else if e = "java/lang/UnsupportedOperationException" then _ else none : Option _).bind _ = _
    rw [ite_bd, ite_bd, ite_bd, ite_bd]; rfl
  · rfl
theorem kx_in {Es : List String} {e : String} {a : Int32} (h : kx Es (.error e : Except String Int32) = some a) : e ∈ Es := by
  unfold kx at h
  dsimp only at h
  cases Es with
  | nil => cases h
  | cons E Es =>
    dsimp only at h
    by_cases g : e = E
    · rw [g]; exact List.mem_cons_self
    · rw [if_neg g] at h
      cases Es with
      | nil => cases h
      | cons E2 Es =>
        dsimp only at h
        by_cases g2 : e = E2
        · rw [g2]; exact List.mem_cons_of_mem _ List.mem_cons_self
        · rw [if_neg g2] at h; cases h
abbrev four (e : String) : Prop := e = "java/lang/IllegalArgumentException" ∨ e = "java/lang/IllegalStateException" ∨ e = "java/util/NoSuchElementException" ∨ e = "java/lang/UnsupportedOperationException"
/-- one command of a program, executed on both sides -/
def SUC (b : Nat) (w : WT) (x : Nat → Int32) (K : Nat → CT) (j : Nat) (so : Int32) (nu : Nat → Int32) : Prop :=
  (∃ q, hsuc w K (some j) = some (.ok 0, w) ∧ fX13_notNow so x nu = some q ∧ q ≠ 0) ∨ (∃ v w' x', hsuc w K (some j) = some (.ok 1, w') ∧ fX13_notNow so x nu = some 0 ∧ fX13_doesNow so x nu = some (v, x') ∧ WR b w' x')
theorem SUC_of {b j k : Nat} {w : WT} {x nu : Nat → Int32} {K : Nat → CT} {so cl cf cs cn : Int32} {Es : List String} {r : Option ((Except String Int32) × WT)} {no : Option Int32} {ex : Option (Int32 × (Nat → Int32))} (hs : SIM b w Es r no ex) (hE : ∀ e, e ∈ Es → four e) (hx : hX11_execute w (some k) cl cf cs = r.bind fun z => some (toU z)) (hK : K j = (some k, cl, cf, cs, cn)) (hj : j < 12) (hno : fX13_notNow so x nu = no) (hex : fX13_doesNow so x nu = ex) : SUC b w x K j so nu := by
  rcases hs with ⟨e, a, rfl, rfl, k3, k4⟩ | ⟨a, w', x', rfl, rfl, rfl, k4⟩
  · refine Or.inl ⟨a, ?_, hno, k3⟩
    rw [hsuc_ex hj hK, hx, ob, ob]
    show (if e = "java/lang/IllegalArgumentException" then _ else if e = "java/lang/IllegalStateException" then _ else if e = "java/util/NoSuchElementException" then _ else if e = "java/lang/UnsupportedOperationException" then _ else none : Option _) = _
    rcases hE e (kx_in k4) with q | q | q | q
    · rw [if_pos q]; rfl
    · rw [if_neg (by rw [q]; decide), if_pos q]; rfl
    · rw [if_neg (by rw [q]; decide), if_neg (by rw [q]; decide), if_pos q]; rfl
    · rw [if_neg (by rw [q]; decide), if_neg (by rw [q]; decide), if_neg (by rw [q]; decide), if_pos q]; rfl
  · refine Or.inr ⟨a, w', x', ?_, hno, hex, k4⟩
    rw [hsuc_ex hj hK, hx, ob, ob]; rfl
theorem four_IS : ∀ e, e ∈ ["java/lang/IllegalArgumentException", "java/lang/IllegalStateException"] → four e := fun e he => by
  rcases List.mem_cons.mp he with q | he
  · exact Or.inl q
  · exact Or.inr (Or.inl (List.mem_singleton.mp he))
theorem four_I : ∀ e, e ∈ ["java/lang/IllegalArgumentException"] → four e := fun e he => Or.inl (List.mem_singleton.mp he)
theorem four_N : ∀ e, e ∈ ["java/util/NoSuchElementException"] → four e := fun e he => Or.inr (Or.inr (Or.inl (List.mem_singleton.mp he)))
theorem four_NU : ∀ e, e ∈ ["java/util/NoSuchElementException", "java/lang/UnsupportedOperationException"] → four e := fun e he => by
  rcases List.mem_cons.mp he with q | he
  · exact Or.inr (Or.inr (Or.inl q))
  · exact Or.inr (Or.inr (Or.inr (List.mem_singleton.mp he)))
theorem nn_0 (x nu : Nat → Int32) : fX13_notNow 115 x nu = fX13_notSpool x (nu 0) (nu 1) := by
  unfold fX13_notNow
  rw [if_neg (show ¬ (115 : Int32) = 99 by decide), if_neg (show ¬ (115 : Int32) = 100 by decide), if_neg (show ¬ (115 : Int32) = 101 by decide), if_neg (show ¬ (115 : Int32) = 102 by decide), if_neg (show ¬ (115 : Int32) = 107 by decide), if_neg (show ¬ (115 : Int32) = 111 by decide), if_neg (show ¬ (115 : Int32) = 114 by decide), if_pos (show (115 : Int32) = 115 from rfl), bd_id]
theorem dn_0 (x nu : Nat → Int32) : fX13_doesNow 115 x nu = fX13_addsSpool x (nu 0) (nu 1) := by
  unfold fX13_doesNow
  rw [if_neg (show ¬ (115 : Int32) = 99 by decide), if_neg (show ¬ (115 : Int32) = 100 by decide), if_neg (show ¬ (115 : Int32) = 101 by decide), if_neg (show ¬ (115 : Int32) = 102 by decide), if_neg (show ¬ (115 : Int32) = 107 by decide), if_neg (show ¬ (115 : Int32) = 111 by decide), if_neg (show ¬ (115 : Int32) = 114 by decide), if_pos (show (115 : Int32) = 115 from rfl), bd_id2]
theorem nn_1 (x nu : Nat → Int32) : fX13_notNow 111 x nu = fX13_notOrder x (nu 0) (nu 1) (nu 2) := by
  unfold fX13_notNow
  rw [if_neg (show ¬ (111 : Int32) = 99 by decide), if_neg (show ¬ (111 : Int32) = 100 by decide), if_neg (show ¬ (111 : Int32) = 101 by decide), if_neg (show ¬ (111 : Int32) = 102 by decide), if_neg (show ¬ (111 : Int32) = 107 by decide), if_pos (show (111 : Int32) = 111 from rfl), bd_id]
theorem dn_1 (x nu : Nat → Int32) : fX13_doesNow 111 x nu = fX13_addsOrder x (nu 0) (nu 1) (nu 2) := by
  unfold fX13_doesNow
  rw [if_neg (show ¬ (111 : Int32) = 99 by decide), if_neg (show ¬ (111 : Int32) = 100 by decide), if_neg (show ¬ (111 : Int32) = 101 by decide), if_neg (show ¬ (111 : Int32) = 102 by decide), if_neg (show ¬ (111 : Int32) = 107 by decide), if_pos (show (111 : Int32) = 111 from rfl), bd_id2]
theorem nn_2 (x nu : Nat → Int32) : fX13_notNow 99 x nu = fX13_notCancel x (nu 0) := by
  unfold fX13_notNow
  rw [if_pos (show (99 : Int32) = 99 from rfl), bd_id]
theorem dn_2 (x nu : Nat → Int32) : fX13_doesNow 99 x nu = fX13_cancels x (nu 0) := by
  unfold fX13_doesNow
  rw [if_pos (show (99 : Int32) = 99 from rfl), bd_id2]
theorem nn_3 (x nu : Nat → Int32) : fX13_notNow 102 x nu = fX13_notFill x (nu 0) := by
  unfold fX13_notNow
  rw [if_neg (show ¬ (102 : Int32) = 99 by decide), if_neg (show ¬ (102 : Int32) = 100 by decide), if_neg (show ¬ (102 : Int32) = 101 by decide), if_pos (show (102 : Int32) = 102 from rfl), bd_id]
theorem dn_3 (x nu : Nat → Int32) : fX13_doesNow 102 x nu = (fX13_orderPlace x (nu 0)).bind fun z => fX13_fillsAt x z := by
  unfold fX13_doesNow
  rw [if_neg (show ¬ (102 : Int32) = 99 by decide), if_neg (show ¬ (102 : Int32) = 100 by decide), if_neg (show ¬ (102 : Int32) = 101 by decide), if_pos (show (102 : Int32) = 102 from rfl)]
  congr 1; funext z; exact bd_id2 _
theorem nn_4 (x nu : Nat → Int32) : fX13_notNow 100 x nu = fX13_notDue (nu 0) := by
  unfold fX13_notNow
  rw [if_neg (show ¬ (100 : Int32) = 99 by decide), if_pos (show (100 : Int32) = 100 from rfl), bd_id]
theorem dn_4 (x nu : Nat → Int32) : fX13_doesNow 100 x nu = fX13_fillsDue x (nu 0) := by
  unfold fX13_doesNow
  rw [if_neg (show ¬ (100 : Int32) = 99 by decide), if_pos (show (100 : Int32) = 100 from rfl), bd_id2]
theorem nn_5 (x nu : Nat → Int32) : fX13_notNow 114 x nu = fX13_notRetire x (nu 0) := by
  unfold fX13_notNow
  rw [if_neg (show ¬ (114 : Int32) = 99 by decide), if_neg (show ¬ (114 : Int32) = 100 by decide), if_neg (show ¬ (114 : Int32) = 101 by decide), if_neg (show ¬ (114 : Int32) = 102 by decide), if_neg (show ¬ (114 : Int32) = 107 by decide), if_neg (show ¬ (114 : Int32) = 111 by decide), if_pos (show (114 : Int32) = 114 from rfl), bd_id]
theorem dn_5 (x nu : Nat → Int32) : fX13_doesNow 114 x nu = fX13_retires x (nu 0) := by
  unfold fX13_doesNow
  rw [if_neg (show ¬ (114 : Int32) = 99 by decide), if_neg (show ¬ (114 : Int32) = 100 by decide), if_neg (show ¬ (114 : Int32) = 101 by decide), if_neg (show ¬ (114 : Int32) = 102 by decide), if_neg (show ¬ (114 : Int32) = 107 by decide), if_neg (show ¬ (114 : Int32) = 111 by decide), if_pos (show (114 : Int32) = 114 from rfl), bd_id2]
theorem nn_6 (x nu : Nat → Int32) : fX13_notNow 101 x nu = fX13_notClear (nu 0) := by
  unfold fX13_notNow
  rw [if_neg (show ¬ (101 : Int32) = 99 by decide), if_neg (show ¬ (101 : Int32) = 100 by decide), if_pos (show (101 : Int32) = 101 from rfl), bd_id]
theorem dn_6 (x nu : Nat → Int32) : fX13_doesNow 101 x nu = fX13_clears x (nu 0 - 97) := by
  unfold fX13_doesNow
  rw [if_neg (show ¬ (101 : Int32) = 99 by decide), if_neg (show ¬ (101 : Int32) = 100 by decide), if_pos (show (101 : Int32) = 101 from rfl), bd_id2]
theorem nn_7 (x nu : Nat → Int32) : fX13_notNow 107 x nu = fX13_notKerf (nu 0) := by
  unfold fX13_notNow
  rw [if_neg (show ¬ (107 : Int32) = 99 by decide), if_neg (show ¬ (107 : Int32) = 100 by decide), if_neg (show ¬ (107 : Int32) = 101 by decide), if_neg (show ¬ (107 : Int32) = 102 by decide), if_pos (show (107 : Int32) = 107 from rfl), bd_id]
theorem dn_7 (x nu : Nat → Int32) : fX13_doesNow 107 x nu = fX13_sets x 5 (nu 0) := by
  unfold fX13_doesNow
  rw [if_neg (show ¬ (107 : Int32) = 99 by decide), if_neg (show ¬ (107 : Int32) = 100 by decide), if_neg (show ¬ (107 : Int32) = 101 by decide), if_neg (show ¬ (107 : Int32) = 102 by decide), if_pos (show (107 : Int32) = 107 from rfl), bd_id2]
theorem nn_8 (x nu : Nat → Int32) : fX13_notNow 108 x nu = fX13_notLimit (nu 0) := by
  unfold fX13_notNow
  rw [if_neg (show ¬ (108 : Int32) = 99 by decide), if_neg (show ¬ (108 : Int32) = 100 by decide), if_neg (show ¬ (108 : Int32) = 101 by decide), if_neg (show ¬ (108 : Int32) = 102 by decide), if_neg (show ¬ (108 : Int32) = 107 by decide), if_neg (show ¬ (108 : Int32) = 111 by decide), if_neg (show ¬ (108 : Int32) = 114 by decide), if_neg (show ¬ (108 : Int32) = 115 by decide), if_neg (show ¬ (108 : Int32) = 117 by decide), bd_id]
theorem dn_8 (x nu : Nat → Int32) : fX13_doesNow 108 x nu = fX13_sets x 6 (nu 0) := by
  unfold fX13_doesNow
  rw [if_neg (show ¬ (108 : Int32) = 99 by decide), if_neg (show ¬ (108 : Int32) = 100 by decide), if_neg (show ¬ (108 : Int32) = 101 by decide), if_neg (show ¬ (108 : Int32) = 102 by decide), if_neg (show ¬ (108 : Int32) = 107 by decide), if_neg (show ¬ (108 : Int32) = 111 by decide), if_neg (show ¬ (108 : Int32) = 114 by decide), if_neg (show ¬ (108 : Int32) = 115 by decide), if_neg (show ¬ (108 : Int32) = 117 by decide), bd_id2]
theorem nn_9 (x nu : Nat → Int32) : fX13_notNow 117 x nu = fX13_notRule (nu 0) := by
  unfold fX13_notNow
  rw [if_neg (show ¬ (117 : Int32) = 99 by decide), if_neg (show ¬ (117 : Int32) = 100 by decide), if_neg (show ¬ (117 : Int32) = 101 by decide), if_neg (show ¬ (117 : Int32) = 102 by decide), if_neg (show ¬ (117 : Int32) = 107 by decide), if_neg (show ¬ (117 : Int32) = 111 by decide), if_neg (show ¬ (117 : Int32) = 114 by decide), if_neg (show ¬ (117 : Int32) = 115 by decide), if_pos (show (117 : Int32) = 117 from rfl), bd_id]
theorem dn_9 (x nu : Nat → Int32) : fX13_doesNow 117 x nu = fX13_sets x 7 (nu 0) := by
  unfold fX13_doesNow
  rw [if_neg (show ¬ (117 : Int32) = 99 by decide), if_neg (show ¬ (117 : Int32) = 100 by decide), if_neg (show ¬ (117 : Int32) = 101 by decide), if_neg (show ¬ (117 : Int32) = 102 by decide), if_neg (show ¬ (117 : Int32) = 107 by decide), if_neg (show ¬ (117 : Int32) = 111 by decide), if_neg (show ¬ (117 : Int32) = 114 by decide), if_neg (show ¬ (117 : Int32) = 115 by decide), if_pos (show (117 : Int32) = 117 from rfl), bd_id2]
theorem EXE {b j k : Nat} {w : WT} {x nu : Nat → Int32} {K : Nat → CT} {so A0 A1 A2 : Int32} (h : WR b w x) (hb : b < 90000) (hk : k < 10) (hj : j < 12) (hc : cAR k A0 A1 A2 (K j)) (hm : mAR k A0 A1 A2 so nu) : SUC (b + 1) w x K j so nu := by
  obtain ⟨rfl, m2, m3, m4⟩ := hm
  obtain ⟨c1, c2, c3, c4⟩ := hc
  obtain ⟨cl, cf, cs, cn, e⟩ : ∃ cl cf cs cn, K j = (some k, cl, cf, cs, cn) := ⟨(K j).2.1, (K j).2.2.1, (K j).2.2.2.1, (K j).2.2.2.2, by rw [← c1]⟩
  rw [e] at c2 c3 c4
  dsimp only at c2 c3 c4
  rcases (by omega : k = 0 ∨ k = 1 ∨ k = 2 ∨ k = 3 ∨ k = 4 ∨ k = 5 ∨ k = 6 ∨ k = 7 ∨ k = 8 ∨ k = 9) with rfl | rfl | rfl | rfl | rfl | rfl | rfl | rfl | rfl | rfl
  · rw [if_pos (by omega)] at c2
    exact SUC_of (S_wind h hb cl cf) four_IS (exe_0 w cl cf cs) e hj ((nn_0 x nu).trans (by rw [show nu 0 = cl from m2.trans c2.symm, show nu 1 = cf from (m3 (by omega)).trans (c3 (by omega)).symm])) ((dn_0 x nu).trans (by rw [show nu 0 = cl from m2.trans c2.symm, show nu 1 = cf from (m3 (by omega)).trans (c3 (by omega)).symm]))
  · rw [if_pos (by omega)] at c2
    exact SUC_of (S_take h hb cl cf cs) four_IS (exe_1 w cl cf cs) e hj ((nn_1 x nu).trans (by rw [show nu 0 = cl from m2.trans c2.symm, show nu 1 = cf from (m3 (by omega)).trans (c3 (by omega)).symm, show nu 2 = cs from (m4 rfl).trans (c4 rfl).symm])) ((dn_1 x nu).trans (by rw [show nu 0 = cl from m2.trans c2.symm, show nu 1 = cf from (m3 (by omega)).trans (c3 (by omega)).symm, show nu 2 = cs from (m4 rfl).trans (c4 rfl).symm]))
  · rw [if_neg (by omega)] at c2
    exact SUC_of (SIM_mono (S_can h cf) (by omega) (by omega)) four_N (exe_2 w cl cf cs) e hj ((nn_2 x nu).trans (by rw [show nu 0 = cf from m2.trans c2.symm])) ((dn_2 x nu).trans (by rw [show nu 0 = cf from m2.trans c2.symm]))
  · rw [if_neg (by omega)] at c2
    exact SUC_of (SIM_mono (S_fil h cf) (by omega) (by omega)) four_NU (exe_3 w cl cf cs) e hj ((nn_3 x nu).trans (by rw [show nu 0 = cf from m2.trans c2.symm])) ((dn_3 x nu).trans (by rw [show nu 0 = cf from m2.trans c2.symm]))
  · rw [if_neg (by omega)] at c2
    exact SUC_of (SIM_mono (S_due h cf) (by omega) (by omega)) four_I (exe_4 w cl cf cs) e hj ((nn_4 x nu).trans (by rw [show nu 0 = cf from m2.trans c2.symm])) ((dn_4 x nu).trans (by rw [show nu 0 = cf from m2.trans c2.symm]))
  · rw [if_neg (by omega)] at c2
    exact SUC_of (SIM_mono (S_ret h cf) (by omega) (by omega)) four_N (exe_5 w cl cf cs) e hj ((nn_5 x nu).trans (by rw [show nu 0 = cf from m2.trans c2.symm])) ((dn_5 x nu).trans (by rw [show nu 0 = cf from m2.trans c2.symm]))
  · rw [if_pos (by omega)] at c2
    exact SUC_of (SIM_mono (S_clr h cl) (by omega) (by omega)) four_I (exe_6 w cl cf cs) e hj ((nn_6 x nu).trans (by rw [show nu 0 = cl from m2.trans c2.symm])) ((dn_6 x nu).trans (by rw [show nu 0 = cl from m2.trans c2.symm]))
  · rw [if_neg (by omega)] at c2
    exact SUC_of (SIM_mono (S_krf h cf) (by omega) (by omega)) four_I (exe_7 w cl cf cs) e hj ((nn_7 x nu).trans (by rw [show nu 0 = cf from m2.trans c2.symm])) ((dn_7 x nu).trans (by rw [show nu 0 = cf from m2.trans c2.symm]))
  · rw [if_neg (by omega)] at c2
    exact SUC_of (SIM_mono (S_lim h cf) (by omega) (by omega)) four_I (exe_8 w cl cf cs) e hj ((nn_8 x nu).trans (by rw [show nu 0 = cf from m2.trans c2.symm])) ((dn_8 x nu).trans (by rw [show nu 0 = cf from m2.trans c2.symm]))
  · rw [if_pos (by omega)] at c2
    exact SUC_of (SIM_mono (S_rul h cl) (by omega) (by omega)) four_I (exe_9 w cl cf cs) e hj ((nn_9 x nu).trans (by rw [show nu 0 = cl from m2.trans c2.symm])) ((dn_9 x nu).trans (by rw [show nu 0 = cl from m2.trans c2.symm]))
