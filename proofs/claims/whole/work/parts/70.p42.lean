/-! pure layer: a command stands or does not stand at a place, on both sides alike -/
theorem cmd_at {l a : Nat} {pt bu : Nat → Int32} (h : TX l pt bu) (ha : a ≤ l) : CMD l pt bu a := by
  have hl := h.1
  have hpb : ∀ j, j < l → pt j = bu j := fun j hj => (h.2 j hj).1
  by_cases g0 : atc l bu a 115
  · exact CMD_of (i := 0) h ha (by omega) (pv_one (by omega) (by decide +kernel) g0) rfl (fun nu => t_spool hl ha g0) (fun nu p => ⟨_, rfl⟩) (fun hb => arg_s h hb fun nu => gv_s hl (by omega))
  by_cases g1 : atc l bu a 111
  · exact CMD_of (i := 1) h ha (by omega) (pv_one (by omega) (by decide +kernel) g1) rfl (fun nu => t_order hl ha g1) (fun nu p => ⟨_, rfl⟩) (fun hb => arg_o h hb fun nu => gv_o hl (by omega))
  by_cases g2 : atc l bu a 99
  · by_cases g : atc l bu (a + 1) 97
    · have e6 : wM l bu a 6 = 1 := by
        show mtw l bu [99, 108, 101, 97, 114, 32] a = 1
        rw [mtw_s g2, mtw_0 (atc_ne g (by decide))]
      have e2 : 1 ≤ wM l bu a 2 := by
        show 1 ≤ mtw l bu [99, 97, 110, 99, 101, 108, 32] a
        rw [mtw_s g2]; omega
      exact CMD_of (i := 2) h ha (by omega) (pv_lo (i2 := 6) (by omega) (by omega) (by omega) (by decide +kernel) g2 (by omega) e6) rfl (fun nu => t_cancel hl ha g2 g) (fun nu p => ⟨_, rfl⟩) (fun hb => arg_n h hb (by omega) rfl (by omega) fun nu => gv_nC hl (by omega))
    · have e2 : wM l bu a 2 = 1 := by
        show mtw l bu [99, 97, 110, 99, 101, 108, 32] a = 1
        rw [mtw_s g2, mtw_0 g]
      have e6 : 1 ≤ wM l bu a 6 := by
        show 1 ≤ mtw l bu [99, 108, 101, 97, 114, 32] a
        rw [mtw_s g2]; omega
      exact CMD_of (i := 6) h ha (by omega) (pv_hi (i2 := 2) (by omega) (by omega) (by omega) (by decide +kernel) g2 (by omega) e2) rfl (fun nu => t_clear hl ha g2 g) (fun nu p => ⟨_, rfl⟩) (fun hb => arg_m h hb fun nu => gv_m hl (by omega))
  by_cases g3 : atc l bu a 102
  · exact CMD_of (i := 3) h ha (by omega) (pv_one (by omega) (by decide +kernel) g3) rfl (fun nu => t_fill hl ha g3) (fun nu p => ⟨_, rfl⟩) (fun hb => arg_n h hb (by omega) rfl (by omega) fun nu => gv_n hl (by omega))
  by_cases g4 : atc l bu a 100
  · exact CMD_of (i := 4) h ha (by omega) (pv_one (by omega) (by decide +kernel) g4) rfl (fun nu => t_due hl ha g4) (fun nu p => ⟨_, rfl⟩) (fun hb => arg_n h hb (by omega) rfl (by omega) fun nu => gv_n hl (by omega))
  by_cases g5 : atc l bu a 114
  · by_cases g : atc l bu (a + 1) 101
    · have e9 : wM l bu a 9 = 1 := by
        show mtw l bu [114, 117, 108, 101, 32] a = 1
        rw [mtw_s g5, mtw_0 (atc_ne g (by decide))]
      have e5 : 1 ≤ wM l bu a 5 := by
        show 1 ≤ mtw l bu [114, 101, 116, 105, 114, 101, 32] a
        rw [mtw_s g5]; omega
      exact CMD_of (i := 5) h ha (by omega) (pv_lo (i2 := 9) (by omega) (by omega) (by omega) (by decide +kernel) g5 (by omega) e9) rfl (fun nu => t_retire hl ha g5 g) (fun nu p => ⟨_, rfl⟩) (fun hb => arg_n h hb (by omega) rfl (by omega) fun nu => gv_nC hl (by omega))
    · have e5 : wM l bu a 5 = 1 := by
        show mtw l bu [114, 101, 116, 105, 114, 101, 32] a = 1
        rw [mtw_s g5, mtw_0 g]
      have e9 : 1 ≤ wM l bu a 9 := by
        show 1 ≤ mtw l bu [114, 117, 108, 101, 32] a
        rw [mtw_s g5]; omega
      exact CMD_of (i := 9) h ha (by omega) (pv_hi (i2 := 5) (by omega) (by omega) (by omega) (by decide +kernel) g5 (by omega) e5) rfl (fun nu => t_rule hl ha g5 g) (fun nu p => ⟨_, rfl⟩) (fun hb => arg_r h hb fun nu => gv_r hl (by omega))
  by_cases g6 : atc l bu a 107
  · exact CMD_of (i := 7) h ha (by omega) (pv_one (by omega) (by decide +kernel) g6) rfl (fun nu => t_kerf hl ha g6) (fun nu p => ⟨_, rfl⟩) (fun hb => arg_d h hb fun nu => gv_d hl (by omega))
  by_cases g7 : atc l bu a 108
  · exact CMD_of (i := 8) h ha (by omega) (pv_one (by omega) (by decide +kernel) g7) rfl (fun nu => t_limit hl ha g7) (fun nu p => ⟨_, rfl⟩) (fun hb => arg_n h hb (by omega) rfl (by omega) fun nu => gv_n hl (by omega))
  have hw : ∀ j, j < 10 → w1 j = 115 ∨ w1 j = 111 ∨ w1 j = 99 ∨ w1 j = 102 ∨ w1 j = 100 ∨ w1 j = 114 ∨ w1 j = 107 ∨ w1 j = 108 := by decide +kernel
  have hn : pvb (wM l bu a) wL 10 0 0 = (none, 0) := pv_nil fun j hj => by
    rcases hw j hj with e | e | e | e | e | e | e | e <;> rw [e] <;> assumption
  refine ⟨0, a, 0, 0, 0, 0, by omega, Or.inl rfl, ha, fun vv vl vf vs vn => ⟨(vv, vl, vf, vs, vn), c_bad (m := 0) hl (by omega) (by rw [wM_eq hpb, hn]), fun e => absurd e (by decide)⟩, fun nu => ⟨_, nu, t_none hl ha g0 g1 g2 g3 g4 g5 g6 g7, fun e => absurd e (by decide)⟩⟩
