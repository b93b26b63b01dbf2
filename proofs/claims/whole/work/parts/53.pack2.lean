def gX13_addSpool (v : MT) (p1 : Int32) (p2 : Int32) : Option (Int32 × MT) := (fX13_addSpool (mt_ch v) (mt_fc v) (mt_w v) (mt_un v) (mt_be v) p1 p2).bind fun r => some (r.1, (r.2.1, r.2.2.1, r.2.2.2.1, (mt_sv v), (mt_ll v), (mt_bl v), (mt_ba v), (mt_ea v), (mt_fa v), (mt_so v), (mt_dn v), r.2.2.2.2.1, r.2.2.2.2.2.1, (mt_sr v), r.2.2.2.2.2.2, (mt_bs v), (mt_ln v), (mt_bu v), (mt_nu v)))
theorem kX13_addSpool (l : Launch) (dC : Nat → ClassId) (dI : Nat → Nat → Nat) (g : Nat → ClassId) (B : Nat → Nat) (v : MT) (p1 : Int32) (p2 : Int32) {r : Int32 × MT} (h : gX13_addSpool v p1 p2 = some r) : MU l yX13_addSpool cX13_addSpool 4 (some .int) 3 64 0 0 dC dI g [.ref (B 0), .int p1, .int p2] (wMt g B v) (wMt g B r.2) (some (.int r.1)) := by
  unfold gX13_addSpool at h
  obtain ⟨z, h1, h⟩ := bd_ok h
  obtain rfl := Option.some.inj h
  exact tX13_addSpool l dC dI g (B 0) (B 1) (B 2) (B 3) (B 4) (B 5) (B 6) (B 7) (B 8) (mt_th v) (mt_ch v) (mt_fc v) (mt_sv v) (mt_ll v) (mt_bl v) (mt_ba v) (mt_ea v) (mt_fa v) (mt_so v) (mt_dn v) (mt_w v) (mt_un v) (mt_sr v) (mt_be v) (mt_bs v) (mt_ln v) (mt_bu v) (mt_nu v) p1 p2 h1
def gX13_retire (v : MT) (p1 : Int32) : Option (Int32 × MT) := (fX13_retire (mt_ch v) (mt_fc v) (mt_w v) (mt_un v) (mt_be v) p1).bind fun r => some (r.1, (r.2.1, r.2.2.1, r.2.2.2.1, (mt_sv v), (mt_ll v), (mt_bl v), (mt_ba v), (mt_ea v), (mt_fa v), (mt_so v), (mt_dn v), r.2.2.2.2.1, r.2.2.2.2.2.1, (mt_sr v), r.2.2.2.2.2.2, (mt_bs v), (mt_ln v), (mt_bu v), (mt_nu v)))
theorem kX13_retire (l : Launch) (dC : Nat → ClassId) (dI : Nat → Nat → Nat) (g : Nat → ClassId) (B : Nat → Nat) (v : MT) (p1 : Int32) {r : Int32 × MT} (h : gX13_retire v p1 = some r) : MU l yX13_retire cX13_retire 2 (some .int) 3 68 0 0 dC dI g [.ref (B 0), .int p1] (wMt g B v) (wMt g B r.2) (some (.int r.1)) := by
  unfold gX13_retire at h
  obtain ⟨z, h1, h⟩ := bd_ok h
  obtain rfl := Option.some.inj h
  exact tX13_retire l dC dI g (B 0) (B 1) (B 2) (B 3) (B 4) (B 5) (B 6) (B 7) (B 8) (mt_th v) (mt_ch v) (mt_fc v) (mt_sv v) (mt_ll v) (mt_bl v) (mt_ba v) (mt_ea v) (mt_fa v) (mt_so v) (mt_dn v) (mt_w v) (mt_un v) (mt_sr v) (mt_be v) (mt_bs v) (mt_ln v) (mt_bu v) (mt_nu v) p1 h1
def gX13_throwScraps (v : MT) (p1 : Int32) : Option (Int32 × MT) := (fX13_throwScraps (mt_ch v) (mt_fc v) (mt_w v) (mt_un v) (mt_be v) p1).bind fun r => some (r.1, (r.2.1, r.2.2.1, r.2.2.2.1, (mt_sv v), (mt_ll v), (mt_bl v), (mt_ba v), (mt_ea v), (mt_fa v), (mt_so v), (mt_dn v), r.2.2.2.2.1, r.2.2.2.2.2.1, (mt_sr v), r.2.2.2.2.2.2, (mt_bs v), (mt_ln v), (mt_bu v), (mt_nu v)))
theorem kX13_throwScraps (l : Launch) (dC : Nat → ClassId) (dI : Nat → Nat → Nat) (g : Nat → ClassId) (B : Nat → Nat) (v : MT) (p1 : Int32) {r : Int32 × MT} (h : gX13_throwScraps v p1 = some r) : MU l yX13_throwScraps cX13_throwScraps 2 (some .int) 3 68 0 0 dC dI g [.ref (B 0), .int p1] (wMt g B v) (wMt g B r.2) (some (.int r.1)) := by
  unfold gX13_throwScraps at h
  obtain ⟨z, h1, h⟩ := bd_ok h
  obtain rfl := Option.some.inj h
  exact tX13_throwScraps l dC dI g (B 0) (B 1) (B 2) (B 3) (B 4) (B 5) (B 6) (B 7) (B 8) (mt_th v) (mt_ch v) (mt_fc v) (mt_sv v) (mt_ll v) (mt_bl v) (mt_ba v) (mt_ea v) (mt_fa v) (mt_so v) (mt_dn v) (mt_w v) (mt_un v) (mt_sr v) (mt_be v) (mt_bs v) (mt_ln v) (mt_bu v) (mt_nu v) p1 h1
def gX13_addOrder (v : MT) (p1 : Int32) (p2 : Int32) (p3 : Int32) : Option (Int32 × MT) := (fX13_addOrder (mt_ch v) (mt_fc v) (mt_w v) (mt_un v) (mt_be v) p1 p2 p3).bind fun r => some (r.1, (r.2.1, r.2.2.1, r.2.2.2.1, (mt_sv v), (mt_ll v), (mt_bl v), (mt_ba v), (mt_ea v), (mt_fa v), (mt_so v), (mt_dn v), r.2.2.2.2.1, r.2.2.2.2.2.1, (mt_sr v), r.2.2.2.2.2.2, (mt_bs v), (mt_ln v), (mt_bu v), (mt_nu v)))
theorem kX13_addOrder (l : Launch) (dC : Nat → ClassId) (dI : Nat → Nat → Nat) (g : Nat → ClassId) (B : Nat → Nat) (v : MT) (p1 : Int32) (p2 : Int32) (p3 : Int32) {r : Int32 × MT} (h : gX13_addOrder v p1 p2 p3 = some r) : MU l yX13_addOrder cX13_addOrder 5 (some .int) 3 65 0 0 dC dI g [.ref (B 0), .int p1, .int p2, .int p3] (wMt g B v) (wMt g B r.2) (some (.int r.1)) := by
  unfold gX13_addOrder at h
  obtain ⟨z, h1, h⟩ := bd_ok h
  obtain rfl := Option.some.inj h
  exact tX13_addOrder l dC dI g (B 0) (B 1) (B 2) (B 3) (B 4) (B 5) (B 6) (B 7) (B 8) (mt_th v) (mt_ch v) (mt_fc v) (mt_sv v) (mt_ll v) (mt_bl v) (mt_ba v) (mt_ea v) (mt_fa v) (mt_so v) (mt_dn v) (mt_w v) (mt_un v) (mt_sr v) (mt_be v) (mt_bs v) (mt_ln v) (mt_bu v) (mt_nu v) p1 p2 p3 h1
def gX13_cancel (v : MT) (p1 : Int32) : Option (Int32 × MT) := (fX13_cancel (mt_ch v) (mt_fc v) (mt_w v) (mt_un v) (mt_be v) p1).bind fun r => some (r.1, (r.2.1, r.2.2.1, r.2.2.2.1, (mt_sv v), (mt_ll v), (mt_bl v), (mt_ba v), (mt_ea v), (mt_fa v), (mt_so v), (mt_dn v), r.2.2.2.2.1, r.2.2.2.2.2.1, (mt_sr v), r.2.2.2.2.2.2, (mt_bs v), (mt_ln v), (mt_bu v), (mt_nu v)))
theorem kX13_cancel (l : Launch) (dC : Nat → ClassId) (dI : Nat → Nat → Nat) (g : Nat → ClassId) (B : Nat → Nat) (v : MT) (p1 : Int32) {r : Int32 × MT} (h : gX13_cancel v p1 = some r) : MU l yX13_cancel cX13_cancel 2 (some .int) 3 67 0 0 dC dI g [.ref (B 0), .int p1] (wMt g B v) (wMt g B r.2) (some (.int r.1)) := by
  unfold gX13_cancel at h
  obtain ⟨z, h1, h⟩ := bd_ok h
  obtain rfl := Option.some.inj h
  exact tX13_cancel l dC dI g (B 0) (B 1) (B 2) (B 3) (B 4) (B 5) (B 6) (B 7) (B 8) (mt_th v) (mt_ch v) (mt_fc v) (mt_sv v) (mt_ll v) (mt_bl v) (mt_ba v) (mt_ea v) (mt_fa v) (mt_so v) (mt_dn v) (mt_w v) (mt_un v) (mt_sr v) (mt_be v) (mt_bs v) (mt_ln v) (mt_bu v) (mt_nu v) p1 h1
def gX13_fill (v : MT) (p1 : Int32) : Option (Int32 × MT) := (fX13_fill (mt_ch v) (mt_fc v) (mt_w v) (mt_un v) (mt_be v) p1).bind fun r => some (r.1, (r.2.1, r.2.2.1, r.2.2.2.1, (mt_sv v), (mt_ll v), (mt_bl v), (mt_ba v), (mt_ea v), (mt_fa v), (mt_so v), (mt_dn v), r.2.2.2.2.1, r.2.2.2.2.2.1, (mt_sr v), r.2.2.2.2.2.2, (mt_bs v), (mt_ln v), (mt_bu v), (mt_nu v)))
theorem kX13_fill (l : Launch) (dC : Nat → ClassId) (dI : Nat → Nat → Nat) (g : Nat → ClassId) (B : Nat → Nat) (v : MT) (p1 : Int32) {r : Int32 × MT} (h : gX13_fill v p1 = some r) : MU l yX13_fill cX13_fill 3 (some .int) 5 111 0 0 dC dI g [.ref (B 0), .int p1] (wMt g B v) (wMt g B r.2) (some (.int r.1)) := by
  unfold gX13_fill at h
  obtain ⟨z, h1, h⟩ := bd_ok h
  obtain rfl := Option.some.inj h
  exact tX13_fill l dC dI g (B 0) (B 1) (B 2) (B 3) (B 4) (B 5) (B 6) (B 7) (B 8) (mt_th v) (mt_ch v) (mt_fc v) (mt_sv v) (mt_ll v) (mt_bl v) (mt_ba v) (mt_ea v) (mt_fa v) (mt_so v) (mt_dn v) (mt_w v) (mt_un v) (mt_sr v) (mt_be v) (mt_bs v) (mt_ln v) (mt_bu v) (mt_nu v) p1 h1
def gX13_fillDue (v : MT) (p1 : Int32) : Option (Int32 × MT) := (fX13_fillDue (mt_ch v) (mt_fc v) (mt_w v) (mt_un v) (mt_be v) p1).bind fun r => some (r.1, (r.2.1, r.2.2.1, r.2.2.2.1, (mt_sv v), (mt_ll v), (mt_bl v), (mt_ba v), (mt_ea v), (mt_fa v), (mt_so v), (mt_dn v), r.2.2.2.2.1, r.2.2.2.2.2.1, (mt_sr v), r.2.2.2.2.2.2, (mt_bs v), (mt_ln v), (mt_bu v), (mt_nu v)))
theorem kX13_fillDue (l : Launch) (dC : Nat → ClassId) (dI : Nat → Nat → Nat) (g : Nat → ClassId) (B : Nat → Nat) (v : MT) (p1 : Int32) {r : Int32 × MT} (h : gX13_fillDue v p1 = some r) : MU l yX13_fillDue cX13_fillDue 2 (some .int) 5 117 0 0 dC dI g [.ref (B 0), .int p1] (wMt g B v) (wMt g B r.2) (some (.int r.1)) := by
  unfold gX13_fillDue at h
  obtain ⟨z, h1, h⟩ := bd_ok h
  obtain rfl := Option.some.inj h
  exact tX13_fillDue l dC dI g (B 0) (B 1) (B 2) (B 3) (B 4) (B 5) (B 6) (B 7) (B 8) (mt_th v) (mt_ch v) (mt_fc v) (mt_sv v) (mt_ll v) (mt_bl v) (mt_ba v) (mt_ea v) (mt_fa v) (mt_so v) (mt_dn v) (mt_w v) (mt_un v) (mt_sr v) (mt_be v) (mt_bs v) (mt_ln v) (mt_bu v) (mt_nu v) p1 h1
def gX13_setKerf (v : MT) (p1 : Int32) : Option (Int32 × MT) := (fX13_setKerf (mt_ch v) (mt_fc v) (mt_w v) (mt_un v) (mt_be v) p1).bind fun r => some (r.1, (r.2.1, r.2.2.1, r.2.2.2.1, (mt_sv v), (mt_ll v), (mt_bl v), (mt_ba v), (mt_ea v), (mt_fa v), (mt_so v), (mt_dn v), r.2.2.2.2.1, r.2.2.2.2.2.1, (mt_sr v), r.2.2.2.2.2.2, (mt_bs v), (mt_ln v), (mt_bu v), (mt_nu v)))
theorem kX13_setKerf (l : Launch) (dC : Nat → ClassId) (dI : Nat → Nat → Nat) (g : Nat → ClassId) (B : Nat → Nat) (v : MT) (p1 : Int32) {r : Int32 × MT} (h : gX13_setKerf v p1 = some r) : MU l yX13_setKerf cX13_setKerf 2 (some .int) 2 42 0 0 dC dI g [.ref (B 0), .int p1] (wMt g B v) (wMt g B r.2) (some (.int r.1)) := by
  unfold gX13_setKerf at h
  obtain ⟨z, h1, h⟩ := bd_ok h
  obtain rfl := Option.some.inj h
  exact tX13_setKerf l dC dI g (B 0) (B 1) (B 2) (B 3) (B 4) (B 5) (B 6) (B 7) (B 8) (mt_th v) (mt_ch v) (mt_fc v) (mt_sv v) (mt_ll v) (mt_bl v) (mt_ba v) (mt_ea v) (mt_fa v) (mt_so v) (mt_dn v) (mt_w v) (mt_un v) (mt_sr v) (mt_be v) (mt_bs v) (mt_ln v) (mt_bu v) (mt_nu v) p1 h1
def gX13_setScrapLimit (v : MT) (p1 : Int32) : Option (Int32 × MT) := (fX13_setScrapLimit (mt_ch v) (mt_fc v) (mt_w v) (mt_un v) (mt_be v) p1).bind fun r => some (r.1, (r.2.1, r.2.2.1, r.2.2.2.1, (mt_sv v), (mt_ll v), (mt_bl v), (mt_ba v), (mt_ea v), (mt_fa v), (mt_so v), (mt_dn v), r.2.2.2.2.1, r.2.2.2.2.2.1, (mt_sr v), r.2.2.2.2.2.2, (mt_bs v), (mt_ln v), (mt_bu v), (mt_nu v)))
theorem kX13_setScrapLimit (l : Launch) (dC : Nat → ClassId) (dI : Nat → Nat → Nat) (g : Nat → ClassId) (B : Nat → Nat) (v : MT) (p1 : Int32) {r : Int32 × MT} (h : gX13_setScrapLimit v p1 = some r) : MU l yX13_setScrapLimit cX13_setScrapLimit 2 (some .int) 2 42 0 0 dC dI g [.ref (B 0), .int p1] (wMt g B v) (wMt g B r.2) (some (.int r.1)) := by
  unfold gX13_setScrapLimit at h
  obtain ⟨z, h1, h⟩ := bd_ok h
  obtain rfl := Option.some.inj h
  exact tX13_setScrapLimit l dC dI g (B 0) (B 1) (B 2) (B 3) (B 4) (B 5) (B 6) (B 7) (B 8) (mt_th v) (mt_ch v) (mt_fc v) (mt_sv v) (mt_ll v) (mt_bl v) (mt_ba v) (mt_ea v) (mt_fa v) (mt_so v) (mt_dn v) (mt_w v) (mt_un v) (mt_sr v) (mt_be v) (mt_bs v) (mt_ln v) (mt_bu v) (mt_nu v) p1 h1
def gX13_setRule (v : MT) (p1 : Int32) : Option (Int32 × MT) := (fX13_setRule (mt_ch v) (mt_fc v) (mt_w v) (mt_un v) (mt_be v) p1).bind fun r => some (r.1, (r.2.1, r.2.2.1, r.2.2.2.1, (mt_sv v), (mt_ll v), (mt_bl v), (mt_ba v), (mt_ea v), (mt_fa v), (mt_so v), (mt_dn v), r.2.2.2.2.1, r.2.2.2.2.2.1, (mt_sr v), r.2.2.2.2.2.2, (mt_bs v), (mt_ln v), (mt_bu v), (mt_nu v)))
theorem kX13_setRule (l : Launch) (dC : Nat → ClassId) (dI : Nat → Nat → Nat) (g : Nat → ClassId) (B : Nat → Nat) (v : MT) (p1 : Int32) {r : Int32 × MT} (h : gX13_setRule v p1 = some r) : MU l yX13_setRule cX13_setRule 2 (some .char) 2 42 0 0 dC dI g [.ref (B 0), .int p1] (wMt g B v) (wMt g B r.2) (some (.int r.1)) := by
  unfold gX13_setRule at h
  obtain ⟨z, h1, h⟩ := bd_ok h
  obtain rfl := Option.some.inj h
  exact tX13_setRule l dC dI g (B 0) (B 1) (B 2) (B 3) (B 4) (B 5) (B 6) (B 7) (B 8) (mt_th v) (mt_ch v) (mt_fc v) (mt_sv v) (mt_ll v) (mt_bl v) (mt_ba v) (mt_ea v) (mt_fa v) (mt_so v) (mt_dn v) (mt_w v) (mt_un v) (mt_sr v) (mt_be v) (mt_bs v) (mt_ln v) (mt_bu v) (mt_nu v) p1 h1
def gX13_kerf (v : MT) : Option (Int32 × MT) := (fX13_kerf (mt_w v)).bind fun r => some (r.1, (r.2, (mt_ch v), (mt_fc v), (mt_sv v), (mt_ll v), (mt_bl v), (mt_ba v), (mt_ea v), (mt_fa v), (mt_so v), (mt_dn v), (mt_w v), (mt_un v), (mt_sr v), (mt_be v), (mt_bs v), (mt_ln v), (mt_bu v), (mt_nu v)))
theorem kX13_kerf (l : Launch) (dC : Nat → ClassId) (dI : Nat → Nat → Nat) (g : Nat → ClassId) (B : Nat → Nat) (v : MT) {r : Int32 × MT} (h : gX13_kerf v = some r) : MU l yX13_kerf cX13_kerf 1 (some .int) 1 21 0 0 dC dI g [.ref (B 0)] (wMt g B v) (wMt g B r.2) (some (.int r.1)) := by
  unfold gX13_kerf at h
  obtain ⟨z, h1, h⟩ := bd_ok h
  obtain rfl := Option.some.inj h
  exact tX13_kerf l dC dI g (B 0) (B 1) (B 2) (B 3) (B 4) (B 5) (B 6) (B 7) (B 8) (mt_th v) (mt_ch v) (mt_fc v) (mt_sv v) (mt_ll v) (mt_bl v) (mt_ba v) (mt_ea v) (mt_fa v) (mt_so v) (mt_dn v) (mt_w v) (mt_un v) (mt_sr v) (mt_be v) (mt_bs v) (mt_ln v) (mt_bu v) (mt_nu v) h1
def gX13_scrapLimit (v : MT) : Option (Int32 × MT) := (fX13_scrapLimit (mt_w v)).bind fun r => some (r.1, (r.2, (mt_ch v), (mt_fc v), (mt_sv v), (mt_ll v), (mt_bl v), (mt_ba v), (mt_ea v), (mt_fa v), (mt_so v), (mt_dn v), (mt_w v), (mt_un v), (mt_sr v), (mt_be v), (mt_bs v), (mt_ln v), (mt_bu v), (mt_nu v)))
theorem kX13_scrapLimit (l : Launch) (dC : Nat → ClassId) (dI : Nat → Nat → Nat) (g : Nat → ClassId) (B : Nat → Nat) (v : MT) {r : Int32 × MT} (h : gX13_scrapLimit v = some r) : MU l yX13_scrapLimit cX13_scrapLimit 1 (some .int) 1 21 0 0 dC dI g [.ref (B 0)] (wMt g B v) (wMt g B r.2) (some (.int r.1)) := by
  unfold gX13_scrapLimit at h
  obtain ⟨z, h1, h⟩ := bd_ok h
  obtain rfl := Option.some.inj h
  exact tX13_scrapLimit l dC dI g (B 0) (B 1) (B 2) (B 3) (B 4) (B 5) (B 6) (B 7) (B 8) (mt_th v) (mt_ch v) (mt_fc v) (mt_sv v) (mt_ll v) (mt_bl v) (mt_ba v) (mt_ea v) (mt_fa v) (mt_so v) (mt_dn v) (mt_w v) (mt_un v) (mt_sr v) (mt_be v) (mt_bs v) (mt_ln v) (mt_bu v) (mt_nu v) h1
def gX13_rule (v : MT) : Option (Int32 × MT) := (fX13_rule (mt_w v)).bind fun r => some (r.1, (r.2, (mt_ch v), (mt_fc v), (mt_sv v), (mt_ll v), (mt_bl v), (mt_ba v), (mt_ea v), (mt_fa v), (mt_so v), (mt_dn v), (mt_w v), (mt_un v), (mt_sr v), (mt_be v), (mt_bs v), (mt_ln v), (mt_bu v), (mt_nu v)))
theorem kX13_rule (l : Launch) (dC : Nat → ClassId) (dI : Nat → Nat → Nat) (g : Nat → ClassId) (B : Nat → Nat) (v : MT) {r : Int32 × MT} (h : gX13_rule v = some r) : MU l yX13_rule cX13_rule 1 (some .char) 1 21 0 0 dC dI g [.ref (B 0)] (wMt g B v) (wMt g B r.2) (some (.int r.1)) := by
  unfold gX13_rule at h
  obtain ⟨z, h1, h⟩ := bd_ok h
  obtain rfl := Option.some.inj h
  exact tX13_rule l dC dI g (B 0) (B 1) (B 2) (B 3) (B 4) (B 5) (B 6) (B 7) (B 8) (mt_th v) (mt_ch v) (mt_fc v) (mt_sv v) (mt_ll v) (mt_bl v) (mt_ba v) (mt_ea v) (mt_fa v) (mt_so v) (mt_dn v) (mt_w v) (mt_un v) (mt_sr v) (mt_be v) (mt_bs v) (mt_ln v) (mt_bu v) (mt_nu v) h1
def gX13_spools (v : MT) : Option (Int32 × MT) := (fX13_spools (mt_w v)).bind fun r => some (r.1, (r.2, (mt_ch v), (mt_fc v), (mt_sv v), (mt_ll v), (mt_bl v), (mt_ba v), (mt_ea v), (mt_fa v), (mt_so v), (mt_dn v), (mt_w v), (mt_un v), (mt_sr v), (mt_be v), (mt_bs v), (mt_ln v), (mt_bu v), (mt_nu v)))
theorem kX13_spools (l : Launch) (dC : Nat → ClassId) (dI : Nat → Nat → Nat) (g : Nat → ClassId) (B : Nat → Nat) (v : MT) {r : Int32 × MT} (h : gX13_spools v = some r) : MU l yX13_spools cX13_spools 1 (some .int) 1 21 0 0 dC dI g [.ref (B 0)] (wMt g B v) (wMt g B r.2) (some (.int r.1)) := by
  unfold gX13_spools at h
  obtain ⟨z, h1, h⟩ := bd_ok h
  obtain rfl := Option.some.inj h
  exact tX13_spools l dC dI g (B 0) (B 1) (B 2) (B 3) (B 4) (B 5) (B 6) (B 7) (B 8) (mt_th v) (mt_ch v) (mt_fc v) (mt_sv v) (mt_ll v) (mt_bl v) (mt_ba v) (mt_ea v) (mt_fa v) (mt_so v) (mt_dn v) (mt_w v) (mt_un v) (mt_sr v) (mt_be v) (mt_bs v) (mt_ln v) (mt_bu v) (mt_nu v) h1
def gX13_hasSpool (v : MT) (p1 : Int32) : Option (Int32 × MT) := (fX13_hasSpool (mt_w v) p1).bind fun r => some (r.1, (r.2, (mt_ch v), (mt_fc v), (mt_sv v), (mt_ll v), (mt_bl v), (mt_ba v), (mt_ea v), (mt_fa v), (mt_so v), (mt_dn v), (mt_w v), (mt_un v), (mt_sr v), (mt_be v), (mt_bs v), (mt_ln v), (mt_bu v), (mt_nu v)))
theorem kX13_hasSpool (l : Launch) (dC : Nat → ClassId) (dI : Nat → Nat → Nat) (g : Nat → ClassId) (B : Nat → Nat) (v : MT) (p1 : Int32) {r : Int32 × MT} (h : gX13_hasSpool v p1 = some r) : MU l yX13_hasSpool cX13_hasSpool 2 (some .boolean) 2 44 0 0 dC dI g [.ref (B 0), .int p1] (wMt g B v) (wMt g B r.2) (some (.int r.1)) := by
  unfold gX13_hasSpool at h
  obtain ⟨z, h1, h⟩ := bd_ok h
  obtain rfl := Option.some.inj h
  exact tX13_hasSpool l dC dI g (B 0) (B 1) (B 2) (B 3) (B 4) (B 5) (B 6) (B 7) (B 8) (mt_th v) (mt_ch v) (mt_fc v) (mt_sv v) (mt_ll v) (mt_bl v) (mt_ba v) (mt_ea v) (mt_fa v) (mt_so v) (mt_dn v) (mt_w v) (mt_un v) (mt_sr v) (mt_be v) (mt_bs v) (mt_ln v) (mt_bu v) (mt_nu v) p1 h1
def gX13_material (v : MT) (p1 : Int32) : Option (Int32 × MT) := (fX13_material (mt_w v) p1).bind fun r => some (r.1, (r.2, (mt_ch v), (mt_fc v), (mt_sv v), (mt_ll v), (mt_bl v), (mt_ba v), (mt_ea v), (mt_fa v), (mt_so v), (mt_dn v), (mt_w v), (mt_un v), (mt_sr v), (mt_be v), (mt_bs v), (mt_ln v), (mt_bu v), (mt_nu v)))
theorem kX13_material (l : Launch) (dC : Nat → ClassId) (dI : Nat → Nat → Nat) (g : Nat → ClassId) (B : Nat → Nat) (v : MT) (p1 : Int32) {r : Int32 × MT} (h : gX13_material v p1 = some r) : MU l yX13_material cX13_material 3 (some .char) 3 66 0 0 dC dI g [.ref (B 0), .int p1] (wMt g B v) (wMt g B r.2) (some (.int r.1)) := by
  unfold gX13_material at h
  obtain ⟨z, h1, h⟩ := bd_ok h
  obtain rfl := Option.some.inj h
  exact tX13_material l dC dI g (B 0) (B 1) (B 2) (B 3) (B 4) (B 5) (B 6) (B 7) (B 8) (mt_th v) (mt_ch v) (mt_fc v) (mt_sv v) (mt_ll v) (mt_bl v) (mt_ba v) (mt_ea v) (mt_fa v) (mt_so v) (mt_dn v) (mt_w v) (mt_un v) (mt_sr v) (mt_be v) (mt_bs v) (mt_ln v) (mt_bu v) (mt_nu v) p1 h1
def gX13_remaining (v : MT) (p1 : Int32) : Option (Int32 × MT) := (fX13_remaining (mt_w v) p1).bind fun r => some (r.1, (r.2, (mt_ch v), (mt_fc v), (mt_sv v), (mt_ll v), (mt_bl v), (mt_ba v), (mt_ea v), (mt_fa v), (mt_so v), (mt_dn v), (mt_w v), (mt_un v), (mt_sr v), (mt_be v), (mt_bs v), (mt_ln v), (mt_bu v), (mt_nu v)))
theorem kX13_remaining (l : Launch) (dC : Nat → ClassId) (dI : Nat → Nat → Nat) (g : Nat → ClassId) (B : Nat → Nat) (v : MT) (p1 : Int32) {r : Int32 × MT} (h : gX13_remaining v p1 = some r) : MU l yX13_remaining cX13_remaining 2 (some .int) 3 66 0 0 dC dI g [.ref (B 0), .int p1] (wMt g B v) (wMt g B r.2) (some (.int r.1)) := by
  unfold gX13_remaining at h
  obtain ⟨z, h1, h⟩ := bd_ok h
  obtain rfl := Option.some.inj h
  exact tX13_remaining l dC dI g (B 0) (B 1) (B 2) (B 3) (B 4) (B 5) (B 6) (B 7) (B 8) (mt_th v) (mt_ch v) (mt_fc v) (mt_sv v) (mt_ll v) (mt_bl v) (mt_ba v) (mt_ea v) (mt_fa v) (mt_so v) (mt_dn v) (mt_w v) (mt_un v) (mt_sr v) (mt_be v) (mt_bs v) (mt_ln v) (mt_bu v) (mt_nu v) p1 h1
def gX13_cuts (v : MT) (p1 : Int32) : Option (Int32 × MT) := (fX13_cuts (mt_w v) p1).bind fun r => some (r.1, (r.2, (mt_ch v), (mt_fc v), (mt_sv v), (mt_ll v), (mt_bl v), (mt_ba v), (mt_ea v), (mt_fa v), (mt_so v), (mt_dn v), (mt_w v), (mt_un v), (mt_sr v), (mt_be v), (mt_bs v), (mt_ln v), (mt_bu v), (mt_nu v)))
theorem kX13_cuts (l : Launch) (dC : Nat → ClassId) (dI : Nat → Nat → Nat) (g : Nat → ClassId) (B : Nat → Nat) (v : MT) (p1 : Int32) {r : Int32 × MT} (h : gX13_cuts v p1 = some r) : MU l yX13_cuts cX13_cuts 2 (some .int) 3 66 0 0 dC dI g [.ref (B 0), .int p1] (wMt g B v) (wMt g B r.2) (some (.int r.1)) := by
  unfold gX13_cuts at h
  obtain ⟨z, h1, h⟩ := bd_ok h
  obtain rfl := Option.some.inj h
  exact tX13_cuts l dC dI g (B 0) (B 1) (B 2) (B 3) (B 4) (B 5) (B 6) (B 7) (B 8) (mt_th v) (mt_ch v) (mt_fc v) (mt_sv v) (mt_ll v) (mt_bl v) (mt_ba v) (mt_ea v) (mt_fa v) (mt_so v) (mt_dn v) (mt_w v) (mt_un v) (mt_sr v) (mt_be v) (mt_bs v) (mt_ln v) (mt_bu v) (mt_nu v) p1 h1
def gX13_spoolByLength (v : MT) (p1 : Int32) : Option (Int32 × MT) := (fX13_spoolByLength (mt_w v) p1).bind fun r => some (r.1, (r.2, (mt_ch v), (mt_fc v), (mt_sv v), (mt_ll v), (mt_bl v), (mt_ba v), (mt_ea v), (mt_fa v), (mt_so v), (mt_dn v), (mt_w v), (mt_un v), (mt_sr v), (mt_be v), (mt_bs v), (mt_ln v), (mt_bu v), (mt_nu v)))
theorem kX13_spoolByLength (l : Launch) (dC : Nat → ClassId) (dI : Nat → Nat → Nat) (g : Nat → ClassId) (B : Nat → Nat) (v : MT) (p1 : Int32) {r : Int32 × MT} (h : gX13_spoolByLength v p1 = some r) : MU l yX13_spoolByLength cX13_spoolByLength 5 (some .int) 2 46 0 0 dC dI g [.ref (B 0), .int p1] (wMt g B v) (wMt g B r.2) (some (.int r.1)) := by
  unfold gX13_spoolByLength at h
  obtain ⟨z, h1, h⟩ := bd_ok h
  obtain rfl := Option.some.inj h
  exact tX13_spoolByLength l dC dI g (B 0) (B 1) (B 2) (B 3) (B 4) (B 5) (B 6) (B 7) (B 8) (mt_th v) (mt_ch v) (mt_fc v) (mt_sv v) (mt_ll v) (mt_bl v) (mt_ba v) (mt_ea v) (mt_fa v) (mt_so v) (mt_dn v) (mt_w v) (mt_un v) (mt_sr v) (mt_be v) (mt_bs v) (mt_ln v) (mt_bu v) (mt_nu v) p1 h1
def gX13_scraps (v : MT) (p1 : Int32) : Option (Int32 × MT) := (fX13_scraps (mt_w v) p1).bind fun r => some (r.1, (r.2, (mt_ch v), (mt_fc v), (mt_sv v), (mt_ll v), (mt_bl v), (mt_ba v), (mt_ea v), (mt_fa v), (mt_so v), (mt_dn v), (mt_w v), (mt_un v), (mt_sr v), (mt_be v), (mt_bs v), (mt_ln v), (mt_bu v), (mt_nu v)))
theorem kX13_scraps (l : Launch) (dC : Nat → ClassId) (dI : Nat → Nat → Nat) (g : Nat → ClassId) (B : Nat → Nat) (v : MT) (p1 : Int32) {r : Int32 × MT} (h : gX13_scraps v p1 = some r) : MU l yX13_scraps cX13_scraps 4 (some .int) 2 42 0 0 dC dI g [.ref (B 0), .int p1] (wMt g B v) (wMt g B r.2) (some (.int r.1)) := by
  unfold gX13_scraps at h
  obtain ⟨z, h1, h⟩ := bd_ok h
  obtain rfl := Option.some.inj h
  exact tX13_scraps l dC dI g (B 0) (B 1) (B 2) (B 3) (B 4) (B 5) (B 6) (B 7) (B 8) (mt_th v) (mt_ch v) (mt_fc v) (mt_sv v) (mt_ll v) (mt_bl v) (mt_ba v) (mt_ea v) (mt_fa v) (mt_so v) (mt_dn v) (mt_w v) (mt_un v) (mt_sr v) (mt_be v) (mt_bs v) (mt_ln v) (mt_bu v) (mt_nu v) p1 h1
def gX13_scrap (v : MT) (p1 : Int32) (p2 : Int32) : Option (Int32 × MT) := (fX13_scrap (mt_w v) p1 p2).bind fun r => some (r.1, (r.2, (mt_ch v), (mt_fc v), (mt_sv v), (mt_ll v), (mt_bl v), (mt_ba v), (mt_ea v), (mt_fa v), (mt_so v), (mt_dn v), (mt_w v), (mt_un v), (mt_sr v), (mt_be v), (mt_bs v), (mt_ln v), (mt_bu v), (mt_nu v)))
theorem kX13_scrap (l : Launch) (dC : Nat → ClassId) (dI : Nat → Nat → Nat) (g : Nat → ClassId) (B : Nat → Nat) (v : MT) (p1 : Int32) (p2 : Int32) {r : Int32 × MT} (h : gX13_scrap v p1 p2 = some r) : MU l yX13_scrap cX13_scrap 4 (some .int) 2 46 0 0 dC dI g [.ref (B 0), .int p1, .int p2] (wMt g B v) (wMt g B r.2) (some (.int r.1)) := by
  unfold gX13_scrap at h
  obtain ⟨z, h1, h⟩ := bd_ok h
  obtain rfl := Option.some.inj h
  exact tX13_scrap l dC dI g (B 0) (B 1) (B 2) (B 3) (B 4) (B 5) (B 6) (B 7) (B 8) (mt_th v) (mt_ch v) (mt_fc v) (mt_sv v) (mt_ll v) (mt_bl v) (mt_ba v) (mt_ea v) (mt_fa v) (mt_so v) (mt_dn v) (mt_w v) (mt_un v) (mt_sr v) (mt_be v) (mt_bs v) (mt_ln v) (mt_bu v) (mt_nu v) p1 p2 h1
def gX13_bestLoad (v : MT) (p1 : Int32) : Option (Int32 × MT) := (fX13_bestLoad (mt_w v) (mt_bs v) p1).bind fun r => some (r.1, (r.2.1, (mt_ch v), (mt_fc v), (mt_sv v), (mt_ll v), (mt_bl v), (mt_ba v), (mt_ea v), (mt_fa v), (mt_so v), (mt_dn v), (mt_w v), (mt_un v), (mt_sr v), (mt_be v), r.2.2, (mt_ln v), (mt_bu v), (mt_nu v)))
theorem kX13_bestLoad (l : Launch) (dC : Nat → ClassId) (dI : Nat → Nat → Nat) (g : Nat → ClassId) (B : Nat → Nat) (v : MT) (p1 : Int32) {r : Int32 × MT} (h : gX13_bestLoad v p1 = some r) : MU l yX13_bestLoad cX13_bestLoad 3 (some .int) 2 49 0 0 dC dI g [.ref (B 0), .int p1] (wMt g B v) (wMt g B r.2) (some (.int r.1)) := by
  unfold gX13_bestLoad at h
  obtain ⟨z, h1, h⟩ := bd_ok h
  obtain rfl := Option.some.inj h
  exact tX13_bestLoad l dC dI g (B 0) (B 1) (B 2) (B 3) (B 4) (B 5) (B 6) (B 7) (B 8) (mt_th v) (mt_ch v) (mt_fc v) (mt_sv v) (mt_ll v) (mt_bl v) (mt_ba v) (mt_ea v) (mt_fa v) (mt_so v) (mt_dn v) (mt_w v) (mt_un v) (mt_sr v) (mt_be v) (mt_bs v) (mt_ln v) (mt_bu v) (mt_nu v) p1 h1
def gX13_bestLoadByRecursion (v : MT) (p1 : Int32) : Option (Int32 × MT) := (fX13_bestLoadByRecursion (mt_w v) (mt_bs v) p1).bind fun r => some (r.1, (r.2.1, (mt_ch v), (mt_fc v), (mt_sv v), (mt_ll v), (mt_bl v), (mt_ba v), (mt_ea v), (mt_fa v), (mt_so v), (mt_dn v), (mt_w v), (mt_un v), (mt_sr v), (mt_be v), r.2.2, (mt_ln v), (mt_bu v), (mt_nu v)))
theorem kX13_bestLoadByRecursion (l : Launch) (dC : Nat → ClassId) (dI : Nat → Nat → Nat) (g : Nat → ClassId) (B : Nat → Nat) (v : MT) (p1 : Int32) {r : Int32 × MT} (h : gX13_bestLoadByRecursion v p1 = some r) : MU l yX13_bestLoadByRecursion cX13_bestLoadByRecursion 2 (some .int) 3 71 0 0 dC dI g [.ref (B 0), .int p1] (wMt g B v) (wMt g B r.2) (some (.int r.1)) := by
  unfold gX13_bestLoadByRecursion at h
  obtain ⟨z, h1, h⟩ := bd_ok h
  obtain rfl := Option.some.inj h
  exact tX13_bestLoadByRecursion l dC dI g (B 0) (B 1) (B 2) (B 3) (B 4) (B 5) (B 6) (B 7) (B 8) (mt_th v) (mt_ch v) (mt_fc v) (mt_sv v) (mt_ll v) (mt_bl v) (mt_ba v) (mt_ea v) (mt_fa v) (mt_so v) (mt_dn v) (mt_w v) (mt_un v) (mt_sr v) (mt_be v) (mt_bs v) (mt_ln v) (mt_bu v) (mt_nu v) p1 h1
def gX13_orders (v : MT) : Option (Int32 × MT) := (fX13_orders (mt_w v)).bind fun r => some (r.1, (r.2, (mt_ch v), (mt_fc v), (mt_sv v), (mt_ll v), (mt_bl v), (mt_ba v), (mt_ea v), (mt_fa v), (mt_so v), (mt_dn v), (mt_w v), (mt_un v), (mt_sr v), (mt_be v), (mt_bs v), (mt_ln v), (mt_bu v), (mt_nu v)))
theorem kX13_orders (l : Launch) (dC : Nat → ClassId) (dI : Nat → Nat → Nat) (g : Nat → ClassId) (B : Nat → Nat) (v : MT) {r : Int32 × MT} (h : gX13_orders v = some r) : MU l yX13_orders cX13_orders 1 (some .int) 1 21 0 0 dC dI g [.ref (B 0)] (wMt g B v) (wMt g B r.2) (some (.int r.1)) := by
  unfold gX13_orders at h
  obtain ⟨z, h1, h⟩ := bd_ok h
  obtain rfl := Option.some.inj h
  exact tX13_orders l dC dI g (B 0) (B 1) (B 2) (B 3) (B 4) (B 5) (B 6) (B 7) (B 8) (mt_th v) (mt_ch v) (mt_fc v) (mt_sv v) (mt_ll v) (mt_bl v) (mt_ba v) (mt_ea v) (mt_fa v) (mt_so v) (mt_dn v) (mt_w v) (mt_un v) (mt_sr v) (mt_be v) (mt_bs v) (mt_ln v) (mt_bu v) (mt_nu v) h1
def gX13_isOpen (v : MT) (p1 : Int32) : Option (Int32 × MT) := (fX13_isOpen (mt_w v) p1).bind fun r => some (r.1, (r.2, (mt_ch v), (mt_fc v), (mt_sv v), (mt_ll v), (mt_bl v), (mt_ba v), (mt_ea v), (mt_fa v), (mt_so v), (mt_dn v), (mt_w v), (mt_un v), (mt_sr v), (mt_be v), (mt_bs v), (mt_ln v), (mt_bu v), (mt_nu v)))
theorem kX13_isOpen (l : Launch) (dC : Nat → ClassId) (dI : Nat → Nat → Nat) (g : Nat → ClassId) (B : Nat → Nat) (v : MT) (p1 : Int32) {r : Int32 × MT} (h : gX13_isOpen v p1 = some r) : MU l yX13_isOpen cX13_isOpen 2 (some .boolean) 2 44 0 0 dC dI g [.ref (B 0), .int p1] (wMt g B v) (wMt g B r.2) (some (.int r.1)) := by
  unfold gX13_isOpen at h
  obtain ⟨z, h1, h⟩ := bd_ok h
  obtain rfl := Option.some.inj h
  exact tX13_isOpen l dC dI g (B 0) (B 1) (B 2) (B 3) (B 4) (B 5) (B 6) (B 7) (B 8) (mt_th v) (mt_ch v) (mt_fc v) (mt_sv v) (mt_ll v) (mt_bl v) (mt_ba v) (mt_ea v) (mt_fa v) (mt_so v) (mt_dn v) (mt_w v) (mt_un v) (mt_sr v) (mt_be v) (mt_bs v) (mt_ln v) (mt_bu v) (mt_nu v) p1 h1
def gX13_orderMaterial (v : MT) (p1 : Int32) : Option (Int32 × MT) := (fX13_orderMaterial (mt_w v) p1).bind fun r => some (r.1, (r.2, (mt_ch v), (mt_fc v), (mt_sv v), (mt_ll v), (mt_bl v), (mt_ba v), (mt_ea v), (mt_fa v), (mt_so v), (mt_dn v), (mt_w v), (mt_un v), (mt_sr v), (mt_be v), (mt_bs v), (mt_ln v), (mt_bu v), (mt_nu v)))
theorem kX13_orderMaterial (l : Launch) (dC : Nat → ClassId) (dI : Nat → Nat → Nat) (g : Nat → ClassId) (B : Nat → Nat) (v : MT) (p1 : Int32) {r : Int32 × MT} (h : gX13_orderMaterial v p1 = some r) : MU l yX13_orderMaterial cX13_orderMaterial 3 (some .char) 3 66 0 0 dC dI g [.ref (B 0), .int p1] (wMt g B v) (wMt g B r.2) (some (.int r.1)) := by
  unfold gX13_orderMaterial at h
  obtain ⟨z, h1, h⟩ := bd_ok h
  obtain rfl := Option.some.inj h
  exact tX13_orderMaterial l dC dI g (B 0) (B 1) (B 2) (B 3) (B 4) (B 5) (B 6) (B 7) (B 8) (mt_th v) (mt_ch v) (mt_fc v) (mt_sv v) (mt_ll v) (mt_bl v) (mt_ba v) (mt_ea v) (mt_fa v) (mt_so v) (mt_dn v) (mt_w v) (mt_un v) (mt_sr v) (mt_be v) (mt_bs v) (mt_ln v) (mt_bu v) (mt_nu v) p1 h1
def gX13_orderLength (v : MT) (p1 : Int32) : Option (Int32 × MT) := (fX13_orderLength (mt_w v) p1).bind fun r => some (r.1, (r.2, (mt_ch v), (mt_fc v), (mt_sv v), (mt_ll v), (mt_bl v), (mt_ba v), (mt_ea v), (mt_fa v), (mt_so v), (mt_dn v), (mt_w v), (mt_un v), (mt_sr v), (mt_be v), (mt_bs v), (mt_ln v), (mt_bu v), (mt_nu v)))
theorem kX13_orderLength (l : Launch) (dC : Nat → ClassId) (dI : Nat → Nat → Nat) (g : Nat → ClassId) (B : Nat → Nat) (v : MT) (p1 : Int32) {r : Int32 × MT} (h : gX13_orderLength v p1 = some r) : MU l yX13_orderLength cX13_orderLength 2 (some .int) 3 66 0 0 dC dI g [.ref (B 0), .int p1] (wMt g B v) (wMt g B r.2) (some (.int r.1)) := by
  unfold gX13_orderLength at h
  obtain ⟨z, h1, h⟩ := bd_ok h
  obtain rfl := Option.some.inj h
  exact tX13_orderLength l dC dI g (B 0) (B 1) (B 2) (B 3) (B 4) (B 5) (B 6) (B 7) (B 8) (mt_th v) (mt_ch v) (mt_fc v) (mt_sv v) (mt_ll v) (mt_bl v) (mt_ba v) (mt_ea v) (mt_fa v) (mt_so v) (mt_dn v) (mt_w v) (mt_un v) (mt_sr v) (mt_be v) (mt_bs v) (mt_ln v) (mt_bu v) (mt_nu v) p1 h1
def gX13_due (v : MT) (p1 : Int32) : Option (Int32 × MT) := (fX13_due (mt_w v) p1).bind fun r => some (r.1, (r.2, (mt_ch v), (mt_fc v), (mt_sv v), (mt_ll v), (mt_bl v), (mt_ba v), (mt_ea v), (mt_fa v), (mt_so v), (mt_dn v), (mt_w v), (mt_un v), (mt_sr v), (mt_be v), (mt_bs v), (mt_ln v), (mt_bu v), (mt_nu v)))
theorem kX13_due (l : Launch) (dC : Nat → ClassId) (dI : Nat → Nat → Nat) (g : Nat → ClassId) (B : Nat → Nat) (v : MT) (p1 : Int32) {r : Int32 × MT} (h : gX13_due v p1 = some r) : MU l yX13_due cX13_due 2 (some .int) 3 66 0 0 dC dI g [.ref (B 0), .int p1] (wMt g B v) (wMt g B r.2) (some (.int r.1)) := by
  unfold gX13_due at h
  obtain ⟨z, h1, h⟩ := bd_ok h
  obtain rfl := Option.some.inj h
  exact tX13_due l dC dI g (B 0) (B 1) (B 2) (B 3) (B 4) (B 5) (B 6) (B 7) (B 8) (mt_th v) (mt_ch v) (mt_fc v) (mt_sv v) (mt_ll v) (mt_bl v) (mt_ba v) (mt_ea v) (mt_fa v) (mt_so v) (mt_dn v) (mt_w v) (mt_un v) (mt_sr v) (mt_be v) (mt_bs v) (mt_ln v) (mt_bu v) (mt_nu v) p1 h1
def gX13_orderAt (v : MT) (p1 : Int32) : Option (Int32 × MT) := (fX13_orderAt (mt_w v) p1).bind fun r => some (r.1, (r.2, (mt_ch v), (mt_fc v), (mt_sv v), (mt_ll v), (mt_bl v), (mt_ba v), (mt_ea v), (mt_fa v), (mt_so v), (mt_dn v), (mt_w v), (mt_un v), (mt_sr v), (mt_be v), (mt_bs v), (mt_ln v), (mt_bu v), (mt_nu v)))
theorem kX13_orderAt (l : Launch) (dC : Nat → ClassId) (dI : Nat → Nat → Nat) (g : Nat → ClassId) (B : Nat → Nat) (v : MT) (p1 : Int32) {r : Int32 × MT} (h : gX13_orderAt v p1 = some r) : MU l yX13_orderAt cX13_orderAt 2 (some .int) 1 22 0 0 dC dI g [.ref (B 0), .int p1] (wMt g B v) (wMt g B r.2) (some (.int r.1)) := by
  unfold gX13_orderAt at h
  obtain ⟨z, h1, h⟩ := bd_ok h
  obtain rfl := Option.some.inj h
  exact tX13_orderAt l dC dI g (B 0) (B 1) (B 2) (B 3) (B 4) (B 5) (B 6) (B 7) (B 8) (mt_th v) (mt_ch v) (mt_fc v) (mt_sv v) (mt_ll v) (mt_bl v) (mt_ba v) (mt_ea v) (mt_fa v) (mt_so v) (mt_dn v) (mt_w v) (mt_un v) (mt_sr v) (mt_be v) (mt_bs v) (mt_ln v) (mt_bu v) (mt_nu v) p1 h1
def gX13_canFill (v : MT) (p1 : Int32) : Option (Int32 × MT) := (fX13_canFill (mt_w v) p1).bind fun r => some (r.1, (r.2, (mt_ch v), (mt_fc v), (mt_sv v), (mt_ll v), (mt_bl v), (mt_ba v), (mt_ea v), (mt_fa v), (mt_so v), (mt_dn v), (mt_w v), (mt_un v), (mt_sr v), (mt_be v), (mt_bs v), (mt_ln v), (mt_bu v), (mt_nu v)))
theorem kX13_canFill (l : Launch) (dC : Nat → ClassId) (dI : Nat → Nat → Nat) (g : Nat → ClassId) (B : Nat → Nat) (v : MT) (p1 : Int32) {r : Int32 × MT} (h : gX13_canFill v p1 = some r) : MU l yX13_canFill cX13_canFill 3 (some .boolean) 4 89 0 0 dC dI g [.ref (B 0), .int p1] (wMt g B v) (wMt g B r.2) (some (.int r.1)) := by
  unfold gX13_canFill at h
  obtain ⟨z, h1, h⟩ := bd_ok h
  obtain rfl := Option.some.inj h
  exact tX13_canFill l dC dI g (B 0) (B 1) (B 2) (B 3) (B 4) (B 5) (B 6) (B 7) (B 8) (mt_th v) (mt_ch v) (mt_fc v) (mt_sv v) (mt_ll v) (mt_bl v) (mt_ba v) (mt_ea v) (mt_fa v) (mt_so v) (mt_dn v) (mt_w v) (mt_un v) (mt_sr v) (mt_be v) (mt_bs v) (mt_ln v) (mt_bu v) (mt_nu v) p1 h1
def gX13_chosenScrap (v : MT) (p1 : Int32) : Option (Int32 × MT) := (fX13_chosenScrap (mt_w v) p1).bind fun r => some (r.1, (r.2, (mt_ch v), (mt_fc v), (mt_sv v), (mt_ll v), (mt_bl v), (mt_ba v), (mt_ea v), (mt_fa v), (mt_so v), (mt_dn v), (mt_w v), (mt_un v), (mt_sr v), (mt_be v), (mt_bs v), (mt_ln v), (mt_bu v), (mt_nu v)))
theorem kX13_chosenScrap (l : Launch) (dC : Nat → ClassId) (dI : Nat → Nat → Nat) (g : Nat → ClassId) (B : Nat → Nat) (v : MT) (p1 : Int32) {r : Int32 × MT} (h : gX13_chosenScrap v p1 = some r) : MU l yX13_chosenScrap cX13_chosenScrap 3 (some .int) 2 45 0 0 dC dI g [.ref (B 0), .int p1] (wMt g B v) (wMt g B r.2) (some (.int r.1)) := by
  unfold gX13_chosenScrap at h
  obtain ⟨z, h1, h⟩ := bd_ok h
  obtain rfl := Option.some.inj h
  exact tX13_chosenScrap l dC dI g (B 0) (B 1) (B 2) (B 3) (B 4) (B 5) (B 6) (B 7) (B 8) (mt_th v) (mt_ch v) (mt_fc v) (mt_sv v) (mt_ll v) (mt_bl v) (mt_ba v) (mt_ea v) (mt_fa v) (mt_so v) (mt_dn v) (mt_w v) (mt_un v) (mt_sr v) (mt_be v) (mt_bs v) (mt_ln v) (mt_bu v) (mt_nu v) p1 h1
def gX13_chosenSpool (v : MT) (p1 : Int32) : Option (Int32 × MT) := (fX13_chosenSpool (mt_w v) p1).bind fun r => some (r.1, (r.2, (mt_ch v), (mt_fc v), (mt_sv v), (mt_ll v), (mt_bl v), (mt_ba v), (mt_ea v), (mt_fa v), (mt_so v), (mt_dn v), (mt_w v), (mt_un v), (mt_sr v), (mt_be v), (mt_bs v), (mt_ln v), (mt_bu v), (mt_nu v)))
theorem kX13_chosenSpool (l : Launch) (dC : Nat → ClassId) (dI : Nat → Nat → Nat) (g : Nat → ClassId) (B : Nat → Nat) (v : MT) (p1 : Int32) {r : Int32 × MT} (h : gX13_chosenSpool v p1 = some r) : MU l yX13_chosenSpool cX13_chosenSpool 3 (some .int) 3 68 0 0 dC dI g [.ref (B 0), .int p1] (wMt g B v) (wMt g B r.2) (some (.int r.1)) := by
  unfold gX13_chosenSpool at h
  obtain ⟨z, h1, h⟩ := bd_ok h
  obtain rfl := Option.some.inj h
  exact tX13_chosenSpool l dC dI g (B 0) (B 1) (B 2) (B 3) (B 4) (B 5) (B 6) (B 7) (B 8) (mt_th v) (mt_ch v) (mt_fc v) (mt_sv v) (mt_ll v) (mt_bl v) (mt_ba v) (mt_ea v) (mt_fa v) (mt_so v) (mt_dn v) (mt_w v) (mt_un v) (mt_sr v) (mt_be v) (mt_bs v) (mt_ln v) (mt_bu v) (mt_nu v) p1 h1
def gX13_wound (v : MT) (p1 : Int32) : Option (Int32 × MT) := (fX13_wound (mt_w v) p1).bind fun r => some (r.1, (r.2, (mt_ch v), (mt_fc v), (mt_sv v), (mt_ll v), (mt_bl v), (mt_ba v), (mt_ea v), (mt_fa v), (mt_so v), (mt_dn v), (mt_w v), (mt_un v), (mt_sr v), (mt_be v), (mt_bs v), (mt_ln v), (mt_bu v), (mt_nu v)))
theorem kX13_wound (l : Launch) (dC : Nat → ClassId) (dI : Nat → Nat → Nat) (g : Nat → ClassId) (B : Nat → Nat) (v : MT) (p1 : Int32) {r : Int32 × MT} (h : gX13_wound v p1 = some r) : MU l yX13_wound cX13_wound 2 (some .int) 3 64 0 0 dC dI g [.ref (B 0), .int p1] (wMt g B v) (wMt g B r.2) (some (.int r.1)) := by
  unfold gX13_wound at h
  obtain ⟨z, h1, h⟩ := bd_ok h
  obtain rfl := Option.some.inj h
  exact tX13_wound l dC dI g (B 0) (B 1) (B 2) (B 3) (B 4) (B 5) (B 6) (B 7) (B 8) (mt_th v) (mt_ch v) (mt_fc v) (mt_sv v) (mt_ll v) (mt_bl v) (mt_ba v) (mt_ea v) (mt_fa v) (mt_so v) (mt_dn v) (mt_w v) (mt_un v) (mt_sr v) (mt_be v) (mt_bs v) (mt_ln v) (mt_bu v) (mt_nu v) p1 h1
def gX13_woundByParts (v : MT) (p1 : Int32) : Option (Int32 × MT) := (fX13_woundByParts (mt_w v) p1).bind fun r => some (r.1, (r.2, (mt_ch v), (mt_fc v), (mt_sv v), (mt_ll v), (mt_bl v), (mt_ba v), (mt_ea v), (mt_fa v), (mt_so v), (mt_dn v), (mt_w v), (mt_un v), (mt_sr v), (mt_be v), (mt_bs v), (mt_ln v), (mt_bu v), (mt_nu v)))
theorem kX13_woundByParts (l : Launch) (dC : Nat → ClassId) (dI : Nat → Nat → Nat) (g : Nat → ClassId) (B : Nat → Nat) (v : MT) (p1 : Int32) {r : Int32 × MT} (h : gX13_woundByParts v p1 = some r) : MU l yX13_woundByParts cX13_woundByParts 2 (some .int) 2 45 0 0 dC dI g [.ref (B 0), .int p1] (wMt g B v) (wMt g B r.2) (some (.int r.1)) := by
  unfold gX13_woundByParts at h
  obtain ⟨z, h1, h⟩ := bd_ok h
  obtain rfl := Option.some.inj h
  exact tX13_woundByParts l dC dI g (B 0) (B 1) (B 2) (B 3) (B 4) (B 5) (B 6) (B 7) (B 8) (mt_th v) (mt_ch v) (mt_fc v) (mt_sv v) (mt_ll v) (mt_bl v) (mt_ba v) (mt_ea v) (mt_fa v) (mt_so v) (mt_dn v) (mt_w v) (mt_un v) (mt_sr v) (mt_be v) (mt_bs v) (mt_ln v) (mt_bu v) (mt_nu v) p1 h1
def gX13_delivered (v : MT) (p1 : Int32) : Option (Int32 × MT) := (fX13_delivered (mt_w v) p1).bind fun r => some (r.1, (r.2, (mt_ch v), (mt_fc v), (mt_sv v), (mt_ll v), (mt_bl v), (mt_ba v), (mt_ea v), (mt_fa v), (mt_so v), (mt_dn v), (mt_w v), (mt_un v), (mt_sr v), (mt_be v), (mt_bs v), (mt_ln v), (mt_bu v), (mt_nu v)))
theorem kX13_delivered (l : Launch) (dC : Nat → ClassId) (dI : Nat → Nat → Nat) (g : Nat → ClassId) (B : Nat → Nat) (v : MT) (p1 : Int32) {r : Int32 × MT} (h : gX13_delivered v p1 = some r) : MU l yX13_delivered cX13_delivered 2 (some .int) 3 64 0 0 dC dI g [.ref (B 0), .int p1] (wMt g B v) (wMt g B r.2) (some (.int r.1)) := by
  unfold gX13_delivered at h
  obtain ⟨z, h1, h⟩ := bd_ok h
  obtain rfl := Option.some.inj h
  exact tX13_delivered l dC dI g (B 0) (B 1) (B 2) (B 3) (B 4) (B 5) (B 6) (B 7) (B 8) (mt_th v) (mt_ch v) (mt_fc v) (mt_sv v) (mt_ll v) (mt_bl v) (mt_ba v) (mt_ea v) (mt_fa v) (mt_so v) (mt_dn v) (mt_w v) (mt_un v) (mt_sr v) (mt_be v) (mt_bs v) (mt_ln v) (mt_bu v) (mt_nu v) p1 h1
def gX13_losses (v : MT) (p1 : Int32) : Option (Int32 × MT) := (fX13_losses (mt_w v) p1).bind fun r => some (r.1, (r.2, (mt_ch v), (mt_fc v), (mt_sv v), (mt_ll v), (mt_bl v), (mt_ba v), (mt_ea v), (mt_fa v), (mt_so v), (mt_dn v), (mt_w v), (mt_un v), (mt_sr v), (mt_be v), (mt_bs v), (mt_ln v), (mt_bu v), (mt_nu v)))
theorem kX13_losses (l : Launch) (dC : Nat → ClassId) (dI : Nat → Nat → Nat) (g : Nat → ClassId) (B : Nat → Nat) (v : MT) (p1 : Int32) {r : Int32 × MT} (h : gX13_losses v p1 = some r) : MU l yX13_losses cX13_losses 2 (some .int) 3 64 0 0 dC dI g [.ref (B 0), .int p1] (wMt g B v) (wMt g B r.2) (some (.int r.1)) := by
  unfold gX13_losses at h
  obtain ⟨z, h1, h⟩ := bd_ok h
  obtain rfl := Option.some.inj h
  exact tX13_losses l dC dI g (B 0) (B 1) (B 2) (B 3) (B 4) (B 5) (B 6) (B 7) (B 8) (mt_th v) (mt_ch v) (mt_fc v) (mt_sv v) (mt_ll v) (mt_bl v) (mt_ba v) (mt_ea v) (mt_fa v) (mt_so v) (mt_dn v) (mt_w v) (mt_un v) (mt_sr v) (mt_be v) (mt_bs v) (mt_ln v) (mt_bu v) (mt_nu v) p1 h1
def gX13_filled (v : MT) : Option (Int32 × MT) := (fX13_filled (mt_w v)).bind fun r => some (r.1, (r.2, (mt_ch v), (mt_fc v), (mt_sv v), (mt_ll v), (mt_bl v), (mt_ba v), (mt_ea v), (mt_fa v), (mt_so v), (mt_dn v), (mt_w v), (mt_un v), (mt_sr v), (mt_be v), (mt_bs v), (mt_ln v), (mt_bu v), (mt_nu v)))
theorem kX13_filled (l : Launch) (dC : Nat → ClassId) (dI : Nat → Nat → Nat) (g : Nat → ClassId) (B : Nat → Nat) (v : MT) {r : Int32 × MT} (h : gX13_filled v = some r) : MU l yX13_filled cX13_filled 1 (some .int) 1 21 0 0 dC dI g [.ref (B 0)] (wMt g B v) (wMt g B r.2) (some (.int r.1)) := by
  unfold gX13_filled at h
  obtain ⟨z, h1, h⟩ := bd_ok h
  obtain rfl := Option.some.inj h
  exact tX13_filled l dC dI g (B 0) (B 1) (B 2) (B 3) (B 4) (B 5) (B 6) (B 7) (B 8) (mt_th v) (mt_ch v) (mt_fc v) (mt_sv v) (mt_ll v) (mt_bl v) (mt_ba v) (mt_ea v) (mt_fa v) (mt_so v) (mt_dn v) (mt_w v) (mt_un v) (mt_sr v) (mt_be v) (mt_bs v) (mt_ln v) (mt_bu v) (mt_nu v) h1
def gX13_totalDelivered (v : MT) : Option (Int64 × MT) := (fX13_totalDelivered (mt_w v)).bind fun r => some (r.1, (r.2, (mt_ch v), (mt_fc v), (mt_sv v), (mt_ll v), (mt_bl v), (mt_ba v), (mt_ea v), (mt_fa v), (mt_so v), (mt_dn v), (mt_w v), (mt_un v), (mt_sr v), (mt_be v), (mt_bs v), (mt_ln v), (mt_bu v), (mt_nu v)))
theorem kX13_totalDelivered (l : Launch) (dC : Nat → ClassId) (dI : Nat → Nat → Nat) (g : Nat → ClassId) (B : Nat → Nat) (v : MT) {r : Int64 × MT} (h : gX13_totalDelivered v = some r) : MU l yX13_totalDelivered cX13_totalDelivered 1 (some .long) 1 23 0 0 dC dI g [.ref (B 0)] (wMt g B v) (wMt g B r.2) (some (.long r.1)) := by
  unfold gX13_totalDelivered at h
  obtain ⟨z, h1, h⟩ := bd_ok h
  obtain rfl := Option.some.inj h
  exact tX13_totalDelivered l dC dI g (B 0) (B 1) (B 2) (B 3) (B 4) (B 5) (B 6) (B 7) (B 8) (mt_th v) (mt_ch v) (mt_fc v) (mt_sv v) (mt_ll v) (mt_bl v) (mt_ba v) (mt_ea v) (mt_fa v) (mt_so v) (mt_dn v) (mt_w v) (mt_un v) (mt_sr v) (mt_be v) (mt_bs v) (mt_ln v) (mt_bu v) (mt_nu v) h1
def gX13_meanRemaining (v : MT) : Option (UInt64 × MT) := (fX13_meanRemaining (mt_w v)).bind fun r => some (r.1, (r.2, (mt_ch v), (mt_fc v), (mt_sv v), (mt_ll v), (mt_bl v), (mt_ba v), (mt_ea v), (mt_fa v), (mt_so v), (mt_dn v), (mt_w v), (mt_un v), (mt_sr v), (mt_be v), (mt_bs v), (mt_ln v), (mt_bu v), (mt_nu v)))
theorem kX13_meanRemaining (l : Launch) (dC : Nat → ClassId) (dI : Nat → Nat → Nat) (g : Nat → ClassId) (B : Nat → Nat) (v : MT) {r : UInt64 × MT} (h : gX13_meanRemaining v = some r) : MU l yX13_meanRemaining cX13_meanRemaining 3 (some .double) 1 22 0 0 dC dI g [.ref (B 0)] (wMt g B v) (wMt g B r.2) (some (.double r.1)) := by
  unfold gX13_meanRemaining at h
  obtain ⟨z, h1, h⟩ := bd_ok h
  obtain rfl := Option.some.inj h
  exact tX13_meanRemaining l dC dI g (B 0) (B 1) (B 2) (B 3) (B 4) (B 5) (B 6) (B 7) (B 8) (mt_th v) (mt_ch v) (mt_fc v) (mt_sv v) (mt_ll v) (mt_bl v) (mt_ba v) (mt_ea v) (mt_fa v) (mt_so v) (mt_dn v) (mt_w v) (mt_un v) (mt_sr v) (mt_be v) (mt_bs v) (mt_ln v) (mt_bu v) (mt_nu v) h1
def gX13_lossRate (v : MT) : Option (UInt32 × MT) := (fX13_lossRate (mt_w v)).bind fun r => some (r.1, (r.2, (mt_ch v), (mt_fc v), (mt_sv v), (mt_ll v), (mt_bl v), (mt_ba v), (mt_ea v), (mt_fa v), (mt_so v), (mt_dn v), (mt_w v), (mt_un v), (mt_sr v), (mt_be v), (mt_bs v), (mt_ln v), (mt_bu v), (mt_nu v)))
theorem kX13_lossRate (l : Launch) (dC : Nat → ClassId) (dI : Nat → Nat → Nat) (g : Nat → ClassId) (B : Nat → Nat) (v : MT) {r : UInt32 × MT} (h : gX13_lossRate v = some r) : MU l yX13_lossRate cX13_lossRate 1 (some .float) 1 23 0 0 dC dI g [.ref (B 0)] (wMt g B v) (wMt g B r.2) (some (.float r.1)) := by
  unfold gX13_lossRate at h
  obtain ⟨z, h1, h⟩ := bd_ok h
  obtain rfl := Option.some.inj h
  exact tX13_lossRate l dC dI g (B 0) (B 1) (B 2) (B 3) (B 4) (B 5) (B 6) (B 7) (B 8) (mt_th v) (mt_ch v) (mt_fc v) (mt_sv v) (mt_ll v) (mt_bl v) (mt_ba v) (mt_ea v) (mt_fa v) (mt_so v) (mt_dn v) (mt_w v) (mt_un v) (mt_sr v) (mt_be v) (mt_bs v) (mt_ln v) (mt_bu v) (mt_nu v) h1
def gX13_isConsistent (v : MT) : Option (Int32 × MT) := (fX13_isConsistent (mt_w v)).bind fun r => some (r.1, (r.2, (mt_ch v), (mt_fc v), (mt_sv v), (mt_ll v), (mt_bl v), (mt_ba v), (mt_ea v), (mt_fa v), (mt_so v), (mt_dn v), (mt_w v), (mt_un v), (mt_sr v), (mt_be v), (mt_bs v), (mt_ln v), (mt_bu v), (mt_nu v)))
theorem kX13_isConsistent (l : Launch) (dC : Nat → ClassId) (dI : Nat → Nat → Nat) (g : Nat → ClassId) (B : Nat → Nat) (v : MT) {r : Int32 × MT} (h : gX13_isConsistent v = some r) : MU l yX13_isConsistent cX13_isConsistent 2 (some .boolean) 2 45 0 0 dC dI g [.ref (B 0)] (wMt g B v) (wMt g B r.2) (some (.int r.1)) := by
  unfold gX13_isConsistent at h
  obtain ⟨z, h1, h⟩ := bd_ok h
  obtain rfl := Option.some.inj h
  exact tX13_isConsistent l dC dI g (B 0) (B 1) (B 2) (B 3) (B 4) (B 5) (B 6) (B 7) (B 8) (mt_th v) (mt_ch v) (mt_fc v) (mt_sv v) (mt_ll v) (mt_bl v) (mt_ba v) (mt_ea v) (mt_fa v) (mt_so v) (mt_dn v) (mt_w v) (mt_un v) (mt_sr v) (mt_be v) (mt_bs v) (mt_ln v) (mt_bu v) (mt_nu v) h1
def gX13_writeSpool (v : MT) (p1 : Int32) : Option (Int32 × MT) := (fX13_writeSpool (mt_ll v) (mt_w v) (mt_ln v) p1).bind fun r => some (r.1, (r.2.1, (mt_ch v), (mt_fc v), (mt_sv v), r.2.2.1, (mt_bl v), (mt_ba v), (mt_ea v), (mt_fa v), (mt_so v), (mt_dn v), (mt_w v), (mt_un v), (mt_sr v), (mt_be v), (mt_bs v), r.2.2.2, (mt_bu v), (mt_nu v)))
theorem kX13_writeSpool (l : Launch) (dC : Nat → ClassId) (dI : Nat → Nat → Nat) (g : Nat → ClassId) (B : Nat → Nat) (v : MT) (p1 : Int32) {r : Int32 × MT} (h : gX13_writeSpool v p1 = some r) : MU l yX13_writeSpool cX13_writeSpool 3 (some .int) 2 44 0 0 dC dI g [.ref (B 0), .int p1] (wMt g B v) (wMt g B r.2) (some (.int r.1)) := by
  unfold gX13_writeSpool at h
  obtain ⟨z, h1, h⟩ := bd_ok h
  obtain rfl := Option.some.inj h
  exact tX13_writeSpool l dC dI g (B 0) (B 1) (B 2) (B 3) (B 4) (B 5) (B 6) (B 7) (B 8) (mt_th v) (mt_ch v) (mt_fc v) (mt_sv v) (mt_ll v) (mt_bl v) (mt_ba v) (mt_ea v) (mt_fa v) (mt_so v) (mt_dn v) (mt_w v) (mt_un v) (mt_sr v) (mt_be v) (mt_bs v) (mt_ln v) (mt_bu v) (mt_nu v) p1 h1
def gX13_writeOrders (v : MT) : Option (Int32 × MT) := (fX13_writeOrders (mt_w v) (mt_ln v)).bind fun r => some (r.1, (r.2.1, (mt_ch v), (mt_fc v), (mt_sv v), r.2.2.1, (mt_bl v), (mt_ba v), (mt_ea v), (mt_fa v), (mt_so v), (mt_dn v), (mt_w v), (mt_un v), (mt_sr v), (mt_be v), (mt_bs v), r.2.2.2, (mt_bu v), (mt_nu v)))
theorem kX13_writeOrders (l : Launch) (dC : Nat → ClassId) (dI : Nat → Nat → Nat) (g : Nat → ClassId) (B : Nat → Nat) (v : MT) {r : Int32 × MT} (h : gX13_writeOrders v = some r) : MU l yX13_writeOrders cX13_writeOrders 2 (some .int) 2 44 0 0 dC dI g [.ref (B 0)] (wMt g B v) (wMt g B r.2) (some (.int r.1)) := by
  unfold gX13_writeOrders at h
  obtain ⟨z, h1, h⟩ := bd_ok h
  obtain rfl := Option.some.inj h
  exact tX13_writeOrders l dC dI g (B 0) (B 1) (B 2) (B 3) (B 4) (B 5) (B 6) (B 7) (B 8) (mt_th v) (mt_ch v) (mt_fc v) (mt_sv v) (mt_ll v) (mt_bl v) (mt_ba v) (mt_ea v) (mt_fa v) (mt_so v) (mt_dn v) (mt_w v) (mt_un v) (mt_sr v) (mt_be v) (mt_bs v) (mt_ln v) (mt_bu v) (mt_nu v) h1
def gX13_charAt (v : MT) (p1 : Int32) : Option (Int32 × MT) := (fX13_charAt (mt_ll v) (mt_ln v) p1).bind fun r => some (r.1, (r.2, (mt_ch v), (mt_fc v), (mt_sv v), (mt_ll v), (mt_bl v), (mt_ba v), (mt_ea v), (mt_fa v), (mt_so v), (mt_dn v), (mt_w v), (mt_un v), (mt_sr v), (mt_be v), (mt_bs v), (mt_ln v), (mt_bu v), (mt_nu v)))
theorem kX13_charAt (l : Launch) (dC : Nat → ClassId) (dI : Nat → Nat → Nat) (g : Nat → ClassId) (B : Nat → Nat) (v : MT) (p1 : Int32) {r : Int32 × MT} (h : gX13_charAt v p1 = some r) : MU l yX13_charAt cX13_charAt 2 (some .char) 1 22 0 0 dC dI g [.ref (B 0), .int p1] (wMt g B v) (wMt g B r.2) (some (.int r.1)) := by
  unfold gX13_charAt at h
  obtain ⟨z, h1, h⟩ := bd_ok h
  obtain rfl := Option.some.inj h
  exact tX13_charAt l dC dI g (B 0) (B 1) (B 2) (B 3) (B 4) (B 5) (B 6) (B 7) (B 8) (mt_th v) (mt_ch v) (mt_fc v) (mt_sv v) (mt_ll v) (mt_bl v) (mt_ba v) (mt_ea v) (mt_fa v) (mt_so v) (mt_dn v) (mt_w v) (mt_un v) (mt_sr v) (mt_be v) (mt_bs v) (mt_ln v) (mt_bu v) (mt_nu v) p1 h1
def gX13_type (v : MT) (p1 : Int32) : Option (Int32 × MT) := (fX13_type (mt_bl v) (mt_bu v) p1).bind fun r => some (r.1, (r.2.1, (mt_ch v), (mt_fc v), (mt_sv v), (mt_ll v), r.2.2.1, (mt_ba v), (mt_ea v), (mt_fa v), (mt_so v), (mt_dn v), (mt_w v), (mt_un v), (mt_sr v), (mt_be v), (mt_bs v), (mt_ln v), r.2.2.2, (mt_nu v)))
theorem kX13_type (l : Launch) (dC : Nat → ClassId) (dI : Nat → Nat → Nat) (g : Nat → ClassId) (B : Nat → Nat) (v : MT) (p1 : Int32) {r : Int32 × MT} (h : gX13_type v p1 = some r) : MU l yX13_type cX13_type 2 (some .int) 1 21 0 0 dC dI g [.ref (B 0), .int p1] (wMt g B v) (wMt g B r.2) (some (.int r.1)) := by
  unfold gX13_type at h
  obtain ⟨z, h1, h⟩ := bd_ok h
  obtain rfl := Option.some.inj h
  exact tX13_type l dC dI g (B 0) (B 1) (B 2) (B 3) (B 4) (B 5) (B 6) (B 7) (B 8) (mt_th v) (mt_ch v) (mt_fc v) (mt_sv v) (mt_ll v) (mt_bl v) (mt_ba v) (mt_ea v) (mt_fa v) (mt_so v) (mt_dn v) (mt_w v) (mt_un v) (mt_sr v) (mt_be v) (mt_bs v) (mt_ln v) (mt_bu v) (mt_nu v) p1 h1
def gX13_run (v : MT) : Option (Int32 × MT) := (fX13_run (mt_ch v) (mt_fc v) (mt_bl v) (mt_ea v) (mt_fa v) (mt_so v) (mt_dn v) (mt_w v) (mt_un v) (mt_be v) (mt_bu v) (mt_nu v)).bind fun r => some (r.1, (r.2.1, r.2.2.1, r.2.2.2.1, (mt_sv v), (mt_ll v), r.2.2.2.2.1, r.2.2.2.2.2.1, r.2.2.2.2.2.2.1, r.2.2.2.2.2.2.2.1, r.2.2.2.2.2.2.2.2.1, r.2.2.2.2.2.2.2.2.2.1, r.2.2.2.2.2.2.2.2.2.2.1, r.2.2.2.2.2.2.2.2.2.2.2.1, (mt_sr v), r.2.2.2.2.2.2.2.2.2.2.2.2.1, (mt_bs v), (mt_ln v), (mt_bu v), r.2.2.2.2.2.2.2.2.2.2.2.2.2))
theorem kX13_run (l : Launch) (dC : Nat → ClassId) (dI : Nat → Nat → Nat) (g : Nat → ClassId) (B : Nat → Nat) (v : MT) {r : Int32 × MT} (h : gX13_run v = some r) : MU l yX13_run cX13_run 2 (some .int) 7 159 0 0 dC dI g [.ref (B 0)] (wMt g B v) (wMt g B r.2) (some (.int r.1)) := by
  unfold gX13_run at h
  obtain ⟨z, h1, h⟩ := bd_ok h
  obtain rfl := Option.some.inj h
  exact tX13_run l dC dI g (B 0) (B 1) (B 2) (B 3) (B 4) (B 5) (B 6) (B 7) (B 8) (mt_th v) (mt_ch v) (mt_fc v) (mt_sv v) (mt_ll v) (mt_bl v) (mt_ba v) (mt_ea v) (mt_fa v) (mt_so v) (mt_dn v) (mt_w v) (mt_un v) (mt_sr v) (mt_be v) (mt_bs v) (mt_ln v) (mt_bu v) (mt_nu v) h1
def gX13_errorPosition (v : MT) : Option (Int32 × MT) := (fX13_errorPosition (mt_ea v)).bind fun r => some (r.1, (r.2, (mt_ch v), (mt_fc v), (mt_sv v), (mt_ll v), (mt_bl v), (mt_ba v), (mt_ea v), (mt_fa v), (mt_so v), (mt_dn v), (mt_w v), (mt_un v), (mt_sr v), (mt_be v), (mt_bs v), (mt_ln v), (mt_bu v), (mt_nu v)))
theorem kX13_errorPosition (l : Launch) (dC : Nat → ClassId) (dI : Nat → Nat → Nat) (g : Nat → ClassId) (B : Nat → Nat) (v : MT) {r : Int32 × MT} (h : gX13_errorPosition v = some r) : MU l yX13_errorPosition cX13_errorPosition 1 (some .int) 1 21 0 0 dC dI g [.ref (B 0)] (wMt g B v) (wMt g B r.2) (some (.int r.1)) := by
  unfold gX13_errorPosition at h
  obtain ⟨z, h1, h⟩ := bd_ok h
  obtain rfl := Option.some.inj h
  exact tX13_errorPosition l dC dI g (B 0) (B 1) (B 2) (B 3) (B 4) (B 5) (B 6) (B 7) (B 8) (mt_th v) (mt_ch v) (mt_fc v) (mt_sv v) (mt_ll v) (mt_bl v) (mt_ba v) (mt_ea v) (mt_fa v) (mt_so v) (mt_dn v) (mt_w v) (mt_un v) (mt_sr v) (mt_be v) (mt_bs v) (mt_ln v) (mt_bu v) (mt_nu v) h1
def gX13_failedCommand (v : MT) : Option (Int32 × MT) := (fX13_failedCommand (mt_fa v)).bind fun r => some (r.1, (r.2, (mt_ch v), (mt_fc v), (mt_sv v), (mt_ll v), (mt_bl v), (mt_ba v), (mt_ea v), (mt_fa v), (mt_so v), (mt_dn v), (mt_w v), (mt_un v), (mt_sr v), (mt_be v), (mt_bs v), (mt_ln v), (mt_bu v), (mt_nu v)))
theorem kX13_failedCommand (l : Launch) (dC : Nat → ClassId) (dI : Nat → Nat → Nat) (g : Nat → ClassId) (B : Nat → Nat) (v : MT) {r : Int32 × MT} (h : gX13_failedCommand v = some r) : MU l yX13_failedCommand cX13_failedCommand 1 (some .int) 1 21 0 0 dC dI g [.ref (B 0)] (wMt g B v) (wMt g B r.2) (some (.int r.1)) := by
  unfold gX13_failedCommand at h
  obtain ⟨z, h1, h⟩ := bd_ok h
  obtain rfl := Option.some.inj h
  exact tX13_failedCommand l dC dI g (B 0) (B 1) (B 2) (B 3) (B 4) (B 5) (B 6) (B 7) (B 8) (mt_th v) (mt_ch v) (mt_fc v) (mt_sv v) (mt_ll v) (mt_bl v) (mt_ba v) (mt_ea v) (mt_fa v) (mt_so v) (mt_dn v) (mt_w v) (mt_un v) (mt_sr v) (mt_be v) (mt_bs v) (mt_ln v) (mt_bu v) (mt_nu v) h1
def gX13_undo (v : MT) : Option (Int32 × MT) := (fX13_undo (mt_ch v) (mt_fc v) (mt_w v) (mt_un v)).bind fun r => some (r.1, (r.2.1, r.2.2.1, (mt_fc v), (mt_sv v), (mt_ll v), (mt_bl v), (mt_ba v), (mt_ea v), (mt_fa v), (mt_so v), (mt_dn v), r.2.2.2, (mt_un v), (mt_sr v), (mt_be v), (mt_bs v), (mt_ln v), (mt_bu v), (mt_nu v)))
theorem kX13_undo (l : Launch) (dC : Nat → ClassId) (dI : Nat → Nat → Nat) (g : Nat → ClassId) (B : Nat → Nat) (v : MT) {r : Int32 × MT} (h : gX13_undo v = some r) : MU l yX13_undo cX13_undo 3 (some .int) 1 21 0 0 dC dI g [.ref (B 0)] (wMt g B v) (wMt g B r.2) (some (.int r.1)) := by
  unfold gX13_undo at h
  obtain ⟨z, h1, h⟩ := bd_ok h
  obtain rfl := Option.some.inj h
  exact tX13_undo l dC dI g (B 0) (B 1) (B 2) (B 3) (B 4) (B 5) (B 6) (B 7) (B 8) (mt_th v) (mt_ch v) (mt_fc v) (mt_sv v) (mt_ll v) (mt_bl v) (mt_ba v) (mt_ea v) (mt_fa v) (mt_so v) (mt_dn v) (mt_w v) (mt_un v) (mt_sr v) (mt_be v) (mt_bs v) (mt_ln v) (mt_bu v) (mt_nu v) h1
def gX13_save (v : MT) : Option (Int32 × MT) := (fX13_save (mt_w v) (mt_sr v)).bind fun r => some (r.1, (r.2.1, (mt_ch v), (mt_fc v), r.2.2.1, (mt_ll v), (mt_bl v), (mt_ba v), (mt_ea v), (mt_fa v), (mt_so v), (mt_dn v), (mt_w v), (mt_un v), r.2.2.2, (mt_be v), (mt_bs v), (mt_ln v), (mt_bu v), (mt_nu v)))
theorem kX13_save (l : Launch) (dC : Nat → ClassId) (dI : Nat → Nat → Nat) (g : Nat → ClassId) (B : Nat → Nat) (v : MT) {r : Int32 × MT} (h : gX13_save v = some r) : MU l yX13_save cX13_save 2 (some .int) 0 0 0 0 dC dI g [.ref (B 0)] (wMt g B v) (wMt g B r.2) (some (.int r.1)) := by
  unfold gX13_save at h
  obtain ⟨z, h1, h⟩ := bd_ok h
  obtain rfl := Option.some.inj h
  exact tX13_save l dC dI g (B 0) (B 1) (B 2) (B 3) (B 4) (B 5) (B 6) (B 7) (B 8) (mt_th v) (mt_ch v) (mt_fc v) (mt_sv v) (mt_ll v) (mt_bl v) (mt_ba v) (mt_ea v) (mt_fa v) (mt_so v) (mt_dn v) (mt_w v) (mt_un v) (mt_sr v) (mt_be v) (mt_bs v) (mt_ln v) (mt_bu v) (mt_nu v) h1
def gX13_restore (v : MT) : Option (Int32 × MT) := (fX13_restore (mt_ch v) (mt_fc v) (mt_sv v) (mt_w v) (mt_sr v)).bind fun r => some (r.1, (r.2.1, r.2.2.1, r.2.2.2.1, (mt_sv v), (mt_ll v), (mt_bl v), (mt_ba v), (mt_ea v), (mt_fa v), (mt_so v), (mt_dn v), r.2.2.2.2, (mt_un v), (mt_sr v), (mt_be v), (mt_bs v), (mt_ln v), (mt_bu v), (mt_nu v)))
theorem kX13_restore (l : Launch) (dC : Nat → ClassId) (dI : Nat → Nat → Nat) (g : Nat → ClassId) (B : Nat → Nat) (v : MT) {r : Int32 × MT} (h : gX13_restore v = some r) : MU l yX13_restore cX13_restore 2 (some .int) 1 21 0 0 dC dI g [.ref (B 0)] (wMt g B v) (wMt g B r.2) (some (.int r.1)) := by
  unfold gX13_restore at h
  obtain ⟨z, h1, h⟩ := bd_ok h
  obtain rfl := Option.some.inj h
  exact tX13_restore l dC dI g (B 0) (B 1) (B 2) (B 3) (B 4) (B 5) (B 6) (B 7) (B 8) (mt_th v) (mt_ch v) (mt_fc v) (mt_sv v) (mt_ll v) (mt_bl v) (mt_ba v) (mt_ea v) (mt_fa v) (mt_so v) (mt_dn v) (mt_w v) (mt_un v) (mt_sr v) (mt_be v) (mt_bs v) (mt_ln v) (mt_bu v) (mt_nu v) h1
def gX13_thrown (v : MT) : Option (Int32) := fX13_thrown (mt_th v)
theorem kX13_thrown (l : Launch) (dC : Nat → ClassId) (dI : Nat → Nat → Nat) (g : Nat → ClassId) (B : Nat → Nat) (v : MT) {r : Int32} (h : gX13_thrown v = some r) : RO l yX13_thrown cX13_thrown 1 (some .int) 0 0 dC dI g [.ref (B 0)] (wMt g B v) (some (.int r)) := tX13_thrown l dC dI g (B 0) (B 1) (B 2) (B 3) (B 4) (B 5) (B 6) (B 7) (B 8) (mt_th v) (mt_ch v) (mt_fc v) (mt_sv v) (mt_ll v) (mt_bl v) (mt_ba v) (mt_ea v) (mt_fa v) (mt_so v) (mt_dn v) (mt_w v) (mt_un v) (mt_sr v) (mt_be v) (mt_bs v) (mt_ln v) (mt_bu v) (mt_nu v) h
