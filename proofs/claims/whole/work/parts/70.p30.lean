/-! all steps, given the step of run -/
theorem st_all (hr : ST_run RLx) : ST_all RLx := ⟨fun t u v ht h => RLx_mono h ht, s_addSpool, s_retire, s_throwScraps, s_addOrder, s_cancel, s_fill, s_fillDue, s_setKerf, s_setScrapLimit, s_setRule, s_kerf, s_scrapLimit, s_rule, s_spools, s_hasSpool, s_material, s_remaining, s_cuts, s_spoolByLength, s_scraps, s_scrap, s_bestLoad, s_bestLoadByRecursion, s_orders, s_isOpen, s_orderMaterial, s_orderLength, s_due, s_orderAt, s_canFill, s_chosenScrap, s_chosenSpool, s_wound, s_woundByParts, s_delivered, s_losses, s_filled, s_totalDelivered, s_meanRemaining, s_lossRate, s_isConsistent, s_writeSpool, s_writeOrders, s_charAt, s_type, hr, s_errorPosition, s_failedCommand, s_undo, s_save, s_restore⟩
theorem BR_0 : BR 0 (fun _ => 0) (fun _ => 0) := ⟨fun _ => 0, fun _ => 0, fun _ _ => ⟨rfl, rfl⟩, Nat.le_refl _, Nat.le_refl _⟩
theorem h_0 : RLx 0 xt0 mt0 := by
  refine ⟨⟨0, 0, 0, 0, 0, 1, 5, 98, 0, fun _ => 0, fun _ => 0, fun _ => 0, fun _ => 0, fun _ => 0, fun _ => 0, fun _ => 0, fun _ => 0, fun _ => 0, fun _ => 0, fun _ => 0, fun _ => 0, fun _ => 0, fun _ => 0, rfl, ?_, ?_, ?_, ?_, ?_, Nat.le_refl _, Nat.le_refl _, Nat.le_refl _, BR_0, by omega⟩, Or.inl ⟨rfl, rfl⟩, ⟨0, 0, 0, rfl, rfl, rfl, rfl, by omega, by omega, by omega, fun i hi => absurd hi (Nat.not_lt_zero _)⟩, ⟨rfl, Or.inl rfl⟩, ⟨rfl, Or.inl rfl⟩, ⟨0, by omega, rfl, rfl, fun j hj => absurd hj (Nat.not_lt_zero _)⟩, ⟨0, by omega, rfl, rfl, Or.inl rfl, by show 0 ≤ 16; omega, fun j hj => ⟨0, by omega, rfl⟩, fun j hj => absurd hj (Nat.not_lt_zero _)⟩⟩
  · exact ⟨by omega, rfl, rfl, fun i hi => absurd hi (Nat.not_lt_zero _), fun i hi => absurd hi (Nat.not_lt_zero _), fun i j h1 h2 => absurd h2 (Nat.not_lt_zero _)⟩
  · exact ⟨by omega, rfl, rfl, fun i hi => absurd hi (Nat.not_lt_zero _), fun i hi => absurd hi (Nat.not_lt_zero _), fun i j h1 h2 => absurd h2 (Nat.not_lt_zero _)⟩
  · exact ⟨by omega, rfl, List.Perm.refl _, fun i hi => absurd hi (Nat.not_lt_zero _), fun i j h1 h2 => absurd h2 (Nat.not_lt_zero _)⟩
  · intro j hj
    have e : ∀ i, 9 ≤ i → mt_w mt0 i = 0 := fun i hi => by
      show upd (upd (upd (fun _ => 0) 5 1) 6 5) 7 98 i = 0
      rw [pk_un (by omega), pk_un (by omega), pk_un (by omega)]
    exact ⟨e _ (by omega), e _ (by omega), e _ (by omega), e _ (by omega)⟩
  · exact ⟨rfl, rfl, rfl, rfl, ⟨1, by omega, by omega, rfl⟩, ⟨5, by omega, by omega, rfl⟩, Or.inl rfl⟩
