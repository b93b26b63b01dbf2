/-! the steps of the face -/
theorem s_addSpool : ST_addSpool RLx := by
  intro t u v x1 x2 ht h
  exact F_addSpool (c16 x1) x2 h ht
theorem s_retire : ST_retire RLx := by
  intro t u v x1 ht h
  exact F_retire x1 h ht
theorem s_throwScraps : ST_throwScraps RLx := by
  intro t u v x1 ht h
  exact F_throwScraps (c16 x1) h ht
theorem s_addOrder : ST_addOrder RLx := by
  intro t u v x1 x2 x3 ht h
  exact F_addOrder (c16 x1) x2 x3 h ht
theorem s_cancel : ST_cancel RLx := by
  intro t u v x1 ht h
  exact F_cancel x1 h ht
theorem s_fill : ST_fill RLx := by
  intro t u v x1 ht h
  exact F_fill x1 h ht
theorem s_fillDue : ST_fillDue RLx := by
  intro t u v x1 ht h
  exact F_fillDue x1 h ht
theorem s_setKerf : ST_setKerf RLx := by
  intro t u v x1 ht h
  exact F_setKerf x1 h ht
theorem s_setScrapLimit : ST_setScrapLimit RLx := by
  intro t u v x1 ht h
  exact F_setScrapLimit x1 h ht
theorem s_setRule : ST_setRule RLx := by
  intro t u v x1 ht h
  exact F_setRule (c16 x1) h ht
theorem s_kerf : ST_kerf RLx := by
  intro t u v ht h
  exact Q_v h ht (q_kerf h.1)
theorem s_scrapLimit : ST_scrapLimit RLx := by
  intro t u v ht h
  exact Q_v h ht (q_scrapLimit h.1)
theorem s_rule : ST_rule RLx := by
  intro t u v ht h
  exact Q_v h ht (q_rule h.1)
theorem s_spools : ST_spools RLx := by
  intro t u v ht h
  exact Q_v h ht (q_spools h.1)
theorem s_hasSpool : ST_hasSpool RLx := by
  intro t u v x1 ht h
  exact Q_v h ht (q_hasSpool h.1 x1)
theorem s_material : ST_material RLx := by
  intro t u v x1 ht h
  exact Q_x h ht (q_material h.1 x1)
theorem s_remaining : ST_remaining RLx := by
  intro t u v x1 ht h
  exact Q_x h ht (q_remaining h.1 x1)
theorem s_cuts : ST_cuts RLx := by
  intro t u v x1 ht h
  exact Q_x h ht (q_cuts h.1 x1)
theorem s_spoolByLength : ST_spoolByLength RLx := by
  intro t u v x1 ht h
  exact Q_x h ht (q_spoolByLength h.1 x1)
theorem s_scraps : ST_scraps RLx := by
  intro t u v x1 ht h
  exact Q_x h ht (q_scraps h.1 (c16 x1))
theorem s_scrap : ST_scrap RLx := by
  intro t u v x1 x2 ht h
  exact Q_x h ht (q_scrap h.1 (c16 x1) x2)
theorem s_bestLoad : ST_bestLoad RLx := by
  intro t u v x1 ht h
  exact F_bestLoad x1 h ht
theorem s_bestLoadByRecursion : ST_bestLoadByRecursion RLx := by
  intro t u v x1 ht h
  exact F_bestLoadByRecursion x1 h ht
theorem s_orders : ST_orders RLx := by
  intro t u v ht h
  exact Q_v h ht (q_orders h.1)
theorem s_isOpen : ST_isOpen RLx := by
  intro t u v x1 ht h
  exact Q_v h ht (q_isOpen h.1 x1)
theorem s_orderMaterial : ST_orderMaterial RLx := by
  intro t u v x1 ht h
  exact Q_x h ht (q_orderMaterial h.1 x1)
theorem s_orderLength : ST_orderLength RLx := by
  intro t u v x1 ht h
  exact Q_x h ht (q_orderLength h.1 x1)
theorem s_due : ST_due RLx := by
  intro t u v x1 ht h
  exact Q_x h ht (q_due h.1 x1)
theorem s_orderAt : ST_orderAt RLx := by
  intro t u v x1 ht h
  exact Q_x h ht (q_orderAt h.1 x1)
theorem s_canFill : ST_canFill RLx := by
  intro t u v x1 ht h
  exact Q_x h ht (q_canFill h.1 x1)
theorem s_chosenScrap : ST_chosenScrap RLx := by
  intro t u v x1 ht h
  exact Q_x h ht (q_chosenScrap h.1 x1)
theorem s_chosenSpool : ST_chosenSpool RLx := by
  intro t u v x1 ht h
  exact Q_x h ht (q_chosenSpool h.1 x1)
theorem s_wound : ST_wound RLx := by
  intro t u v x1 ht h
  exact Q_x h ht (q_wound h.1 (c16 x1))
theorem s_woundByParts : ST_woundByParts RLx := by
  intro t u v x1 ht h
  exact Q_x h ht (q_woundByParts h.1 (c16 x1))
theorem s_delivered : ST_delivered RLx := by
  intro t u v x1 ht h
  exact Q_x h ht (q_delivered h.1 (c16 x1))
theorem s_losses : ST_losses RLx := by
  intro t u v x1 ht h
  exact Q_x h ht (q_losses h.1 (c16 x1))
theorem s_filled : ST_filled RLx := by
  intro t u v ht h
  exact Q_v h ht (q_filled h.1)
theorem s_totalDelivered : ST_totalDelivered RLx := by
  intro t u v ht h
  obtain ⟨a, e1, e2⟩ := q_totalDelivered h.1
  refine ⟨a, (a, ((0, v.2) : MT)), e1, ?_, rfl, RLx_th 0 h ht⟩
  unfold gX13_totalDelivered
  rw [e2]; rfl
theorem s_meanRemaining : ST_meanRemaining RLx := by
  intro t u v ht h
  obtain ⟨a, r, e1, e2, e3⟩ := q_mean h.1
  refine ⟨(a, u), (r.1, ((r.2, v.2) : MT)), ?_, ?_, e3, RLx_th r.2 h ht⟩
  · unfold gX12_meanRemaining
    rw [e1]; rfl
  · unfold gX13_meanRemaining
    rw [e2]; rfl
theorem s_lossRate : ST_lossRate RLx := by
  intro t u v ht h
  obtain ⟨a, r, e1, e2, e3⟩ := q_loss h.1
  refine ⟨(a, u), (r.1, ((r.2, v.2) : MT)), ?_, ?_, e3, RLx_th r.2 h ht⟩
  · unfold gX12_lossRate
    rw [e1]; rfl
  · unfold gX13_lossRate
    rw [e2]; rfl
theorem s_isConsistent : ST_isConsistent RLx := by
  intro t u v ht h
  exact F_isConsistent h ht
theorem s_writeSpool : ST_writeSpool RLx := by
  intro t u v x1 ht h
  exact F_writeSpool x1 h ht
theorem s_writeOrders : ST_writeOrders RLx := by
  intro t u v ht h
  exact F_writeOrders h ht
theorem s_charAt : ST_charAt RLx := by
  intro t u v x1 ht h
  exact F_charAt x1 h ht
theorem s_type : ST_type RLx := by
  intro t u v x1 ht h
  exact F_type x1 h ht
theorem s_errorPosition : ST_errorPosition RLx := by
  intro t u v ht h
  exact Q_x h ht (q_err h.2.2.2.1)
theorem s_failedCommand : ST_failedCommand RLx := by
  intro t u v ht h
  exact Q_x h ht (q_err h.2.2.2.2.1)
theorem s_undo : ST_undo RLx := by
  intro t u v ht h
  exact F_undo h ht
theorem s_save : ST_save RLx := by
  intro t u v ht h
  exact F_save h ht
theorem s_restore : ST_restore RLx := by
  intro t u v ht h
  exact F_restore h ht
