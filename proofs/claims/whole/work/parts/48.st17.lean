set_option maxHeartbeats 4000000 in
set_option maxRecDepth 100000 in
theorem g_noteAct {M : xM} {Q : Option Value → xM → Prop} {t p c : Nat} {b : Bool} (ht : t < 500) (hp : p < 4) (h : Q none (xa (xa M 14 (upd (M.2.1 14) (t * 4 + p) (nI c))) 16 (upd ((xa M 14 (upd (M.2.1 14) (t * 4 + p) (nI c))).2.1 16) (t * 4 + p) (xb b)))) : WP shC mX3_noteAct 0 [some (.ref 13), some (.int (nI t)), some (.int (nI p)), some (.int (nI c)), some (.int (xb b))] [] M Q := by
  refine xi_aload_n dX3_noteAct_0 rfl ?_
  refine xi_getR dX3_noteAct_1 fgX3_9 cc13 rfl ?_
  refine xi_iload_n dX3_noteAct_4 rfl ?_
  refine xi_iconst (v := 4) dX3_noteAct_5 rfl ?_
  refine xe_imul dX3_noteAct_6 (v := nI (t * 4)) (pk_mul t 4) ?_
  refine xi_iload_n dX3_noteAct_7 rfl ?_
  refine xe_iadd dX3_noteAct_8 (v := nI (t * 4 + p)) (nI_add (t * 4) p) ?_
  refine xi_iload_n dX3_noteAct_9 rfl ?_
  refine xe_iast (t * 4 + p) dX3_noteAct_10 cc14 (by decide) rfl (by omega) ?_
  refine xi_aload_n dX3_noteAct_11 rfl ?_
  refine xi_getR dX3_noteAct_12 fgX3_19 cc13 rfl ?_
  refine xat 15 rfl ?_
  refine xi_iload_n dX3_noteAct_15 rfl ?_
  refine xi_iconst (v := 4) dX3_noteAct_16 rfl ?_
  refine xe_imul dX3_noteAct_17 (v := nI (t * 4)) (pk_mul t 4) ?_
  refine xi_iload_n dX3_noteAct_18 rfl ?_
  refine xe_iadd dX3_noteAct_19 (v := nI (t * 4 + p)) (nI_add (t * 4) p) ?_
  refine xi_iload dX3_noteAct_20 rfl ?_
  refine xb_if_eq b 29 dX3_noteAct_22 (by decide) rfl (fun h22 => ?_) (fun h22 => ?_)
  · skip
    refine xi_iconst (v := 0) dX3_noteAct_29 rfl ?_
    refine xi_i2b dX3_noteAct_30 ?_
    refine xe_bast (v := 0) (t * 4 + p) dX3_noteAct_31 cc16 (by decide) rfl (by omega) (by decide) ?_
    refine xi_vret dX3_noteAct_32 rfl ?_
    rw [h22] at h
    exact h
  · skip
    refine xi_iconst (v := 1) dX3_noteAct_25 rfl ?_
    refine xi_goto 30 dX3_noteAct_26 (by decide) ?_
    refine xi_i2b dX3_noteAct_30 ?_
    refine xe_bast (v := 1) (t * 4 + p) dX3_noteAct_31 cc16 (by decide) rfl (by omega) (by decide) ?_
    refine xi_vret dX3_noteAct_32 rfl ?_
    rw [h22] at h
    exact h

