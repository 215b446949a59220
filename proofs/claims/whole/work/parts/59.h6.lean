set_option maxHeartbeats 4000000 in
set_option maxRecDepth 100000 in
theorem cl_risk {X : xX} {M : xM} {Q : Option Value → xM → Prop} (hX : wX X) (hC : RepC X M) (x0 : Int32) (h : ∀ M2, RepC (st_risk X x0).2 M2 → Q (some (.int (st_risk X x0).1)) M2) : WP shC mX9_risk 0 [some (.ref 0), some (.int x0), none] [] M Q := by
  obtain ⟨G, S0, now, late, risk, A, L, sq, nl, rf, hr, lg, w, tp⟩ := X
  obtain ⟨hW, hw0, wn, wl, wr, wA_, wsq, wnl, wmo, wtk, wwt, wtp, wO0, wB0⟩ := id hX
  obtain ⟨b1, b2, b3, b4, b5, b6, b7, b8, b9, wmap, wlink, wk0, wk1, b10, b11, wword⟩ := id hW
  have nb : nl ≤ 2000 := by rw [wnl]; exact mcnt_le 2000
  obtain ⟨hG, hKF, hKR, hL, hKE, hKS, hKW, hKT, hKM⟩ := id hC
  obtain ⟨hno, hla, hri, hnl, hrf, hhr⟩ := id hKM
  have hSn : CS G (Zf G A S0 now) M (61 + 10 * (now % 16)) := hKR.1 now (by omega) (by omega)
  have hwn : wS G (Zf G A S0 now) := wS_Zf hW hw0 now
  rcases xrg_cases x0 (lo := 0) (hi := 1048576) (by omega) (by omega) with ⟨ec0, hc0⟩ | ⟨k0, hk0, hl0, rfl, ec0⟩
  · skip
    refine xi_iload_n dX9_risk_0 rfl ?_
    refine xi_if_lt 10 dX9_risk_1 (by decide) (fun h1 => ?_) (fun h1 => ?_)
    · skip
      refine xi_iconst (v := (-1)) dX9_risk_10 rfl ?_
      refine xi_iret (v := (-1)) dX9_risk_11 rfl ?_
      have e : st_risk (G, S0, now, late, risk, A, L, sq, nl, rf, hr, lg, w, tp) x0 = (-1, (G, S0, now, late, risk, A, L, sq, nl, rf, hr, lg, w, tp)) := by simp only [st_risk, ec0]
      rw [e] at h
      exact h M hC
    · skip
      refine xi_iload_n dX9_risk_4 rfl ?_
      refine xi_ldc (v := 1048576) dX9_risk_5 kcX9_159 ?_
      refine xi_icmp_le 12 dX9_risk_7 (by decide) (fun z => hc0.elim (fun q => absurd q h1) (fun q => absurd q (Int32.not_lt.mpr z))) (fun h7 => ?_)
      refine xi_iconst (v := (-1)) dX9_risk_10 rfl ?_
      refine xi_iret (v := (-1)) dX9_risk_11 rfl ?_
      have e : st_risk (G, S0, now, late, risk, A, L, sq, nl, rf, hr, lg, w, tp) x0 = (-1, (G, S0, now, late, risk, A, L, sq, nl, rf, hr, lg, w, tp)) := by simp only [st_risk, ec0]
      rw [e] at h
      exact h M hC
  refine xi_iload_n dX9_risk_0 rfl ?_
  refine xn_if_lt k0 10 dX9_risk_1 (by decide) rfl (by omega) ?_
  refine xi_iload_n dX9_risk_4 rfl ?_
  refine xi_ldc (v := 1048576) dX9_risk_5 kcX9_159 ?_
  refine xn_icmp_le k0 1048576 12 dX9_risk_7 (by decide) rfl rfl (by omega) (by omega) (fun h7 => ?_) (fun z => absurd z (by omega))
  refine xi_aload_n dX9_risk_12 rfl ?_
  refine xe_getI (v := nI risk) dX9_risk_13 fgX9_104 cc0 rfl hri ?_
  refine xi_istore_n (lv' := [some (.ref 0), some (.int (nI k0)), some (.int (nI risk))]) dX9_risk_16 (by decide) rfl ?_
  refine xi_aload_n dX9_risk_17 rfl ?_
  refine xi_iload_n dX9_risk_18 rfl ?_
  refine xi_put dX9_risk_19 fpX9_104 cc0 rfl ?_
  refine xat 22 rfl ?_
  refine xi_iload_n dX9_risk_22 rfl ?_
  refine xi_iret (v := nI risk) dX9_risk_23 rfl ?_
  simp only [st_risk, ec0] at h
  exact h _ (RepC_risk hC)

set_option maxHeartbeats 4000000 in
set_option maxRecDepth 100000 in
theorem cl_late {X : xX} {M : xM} {Q : Option Value → xM → Prop} (hX : wX X) (hC : RepC X M) (x0 : Int32) (h : ∀ M2, RepC (st_late X x0).2 M2 → Q (some (.int (st_late X x0).1)) M2) : WP shC mX9_late 0 [some (.ref 0), some (.int x0), none] [] M Q := by
  obtain ⟨G, S0, now, late, risk, A, L, sq, nl, rf, hr, lg, w, tp⟩ := X
  obtain ⟨hW, hw0, wn, wl, wr, wA_, wsq, wnl, wmo, wtk, wwt, wtp, wO0, wB0⟩ := id hX
  obtain ⟨b1, b2, b3, b4, b5, b6, b7, b8, b9, wmap, wlink, wk0, wk1, b10, b11, wword⟩ := id hW
  have nb : nl ≤ 2000 := by rw [wnl]; exact mcnt_le 2000
  obtain ⟨hG, hKF, hKR, hL, hKE, hKS, hKW, hKT, hKM⟩ := id hC
  obtain ⟨hno, hla, hri, hnl, hrf, hhr⟩ := id hKM
  have hSn : CS G (Zf G A S0 now) M (61 + 10 * (now % 16)) := hKR.1 now (by omega) (by omega)
  have hwn : wS G (Zf G A S0 now) := wS_Zf hW hw0 now
  rcases xrg_cases x0 (lo := 0) (hi := 8) (by omega) (by omega) with ⟨ec0, hc0⟩ | ⟨k0, hk0, hl0, rfl, ec0⟩
  · skip
    refine xi_iload_n dX9_late_0 rfl ?_
    refine xi_if_lt 10 dX9_late_1 (by decide) (fun h1 => ?_) (fun h1 => ?_)
    · skip
      refine xi_iconst (v := (-1)) dX9_late_10 rfl ?_
      refine xi_iret (v := (-1)) dX9_late_11 rfl ?_
      have e : st_late (G, S0, now, late, risk, A, L, sq, nl, rf, hr, lg, w, tp) x0 = (-1, (G, S0, now, late, risk, A, L, sq, nl, rf, hr, lg, w, tp)) := by simp only [st_late, ec0]
      rw [e] at h
      exact h M hC
    · skip
      refine xi_iload_n dX9_late_4 rfl ?_
      refine xi_bipush (v := 8) dX9_late_5 (by decide) ?_
      refine xi_icmp_le 12 dX9_late_7 (by decide) (fun z => hc0.elim (fun q => absurd q h1) (fun q => absurd q (Int32.not_lt.mpr z))) (fun h7 => ?_)
      refine xi_iconst (v := (-1)) dX9_late_10 rfl ?_
      refine xi_iret (v := (-1)) dX9_late_11 rfl ?_
      have e : st_late (G, S0, now, late, risk, A, L, sq, nl, rf, hr, lg, w, tp) x0 = (-1, (G, S0, now, late, risk, A, L, sq, nl, rf, hr, lg, w, tp)) := by simp only [st_late, ec0]
      rw [e] at h
      exact h M hC
  refine xi_iload_n dX9_late_0 rfl ?_
  refine xn_if_lt k0 10 dX9_late_1 (by decide) rfl (by omega) ?_
  refine xi_iload_n dX9_late_4 rfl ?_
  refine xi_bipush (v := 8) dX9_late_5 (by decide) ?_
  refine xn_icmp_le k0 8 12 dX9_late_7 (by decide) rfl rfl (by omega) (by omega) (fun h7 => ?_) (fun z => absurd z (by omega))
  refine xi_aload_n dX9_late_12 rfl ?_
  refine xi_callV [] [] dX9_late_13 zX9_hasStarted mlX9_120 cc0 rfl rfl rfl rfl rfl (Nat.le_of_ble_eq_true rfl) (Nat.le_of_ble_eq_true rfl) ⟨by decide, by decide⟩ ?_
  refine c_started hX hC ?_
  show WP _ _ 16 _ [.int (xb (decide (0 < now ∨ 0 < nl)))] _ _
  refine xb_if_eq (decide (0 < now ∨ 0 < nl)) 22 dX9_late_16 (by decide) rfl (fun h16 => ?_) (fun h16 => ?_)
  · have e16 := of_decide_eq_false h16
    refine xi_aload_n dX9_late_22 rfl ?_
    refine xe_getI (v := nI late) dX9_late_23 fgX9_101 cc0 rfl hla ?_
    refine xi_istore_n (lv' := [some (.ref 0), some (.int (nI k0)), some (.int (nI late))]) dX9_late_26 (by decide) rfl ?_
    refine xi_aload_n dX9_late_27 rfl ?_
    refine xi_iload_n dX9_late_28 rfl ?_
    refine xi_put dX9_late_29 fpX9_101 cc0 rfl ?_
    refine xi_iload_n dX9_late_32 rfl ?_
    refine xi_iret (v := nI late) dX9_late_33 rfl ?_
    simp only [st_late, ec0] at h
    rw [if_neg e16] at h
    exact h _ (RepC_late hC (by omega))
  · have e16 := of_decide_eq_true h16
    refine xi_bipush (v := (-2)) dX9_late_19 (by decide) ?_
    refine xi_iret (v := (-2)) dX9_late_21 rfl ?_
    simp only [st_late, ec0] at h
    rw [if_pos e16] at h
    exact h M hC

set_option maxHeartbeats 4000000 in
set_option maxRecDepth 100000 in
theorem cl_wall {X : xX} {M : xM} {Q : Option Value → xM → Prop} (hX : wX X) (hC : RepC X M) (x0 : Int32) (h : ∀ M2, RepC (st_wall X x0).2 M2 → Q (some (.int (st_wall X x0).1)) M2) : WP shC mX9_wall 0 [some (.ref 0), some (.int x0), none] [] M Q := by
  obtain ⟨G, S0, now, late, risk, A, L, sq, nl, rf, hr, lg, w, tp⟩ := X
  obtain ⟨hW, hw0, wn, wl, wr, wA_, wsq, wnl, wmo, wtk, wwt, wtp, wO0, wB0⟩ := id hX
  obtain ⟨b1, b2, b3, b4, b5, b6, b7, b8, b9, wmap, wlink, wk0, wk1, b10, b11, wword⟩ := id hW
  have nb : nl ≤ 2000 := by rw [wnl]; exact mcnt_le 2000
  obtain ⟨hG, hKF, hKR, hL, hKE, hKS, hKW, hKT, hKM⟩ := id hC
  obtain ⟨hno, hla, hri, hnl, hrf, hhr⟩ := id hKM
  have hSn : CS G (Zf G A S0 now) M (61 + 10 * (now % 16)) := hKR.1 now (by omega) (by omega)
  have hwn : wS G (Zf G A S0 now) := wS_Zf hW hw0 now
  rcases xix_cases x0 (n := gN G) (by omega) with ⟨ec0, hc0⟩ | ⟨k0, hk0, rfl, ec0⟩
  · skip
    refine xi_aload_n dX9_wall_0 rfl ?_
    refine xi_getR dX9_wall_1 fgX9_10 cc0 rfl ?_
    refine xi_iload_n dX9_wall_4 rfl ?_
    refine xi_callV [.int x0] [] dX9_wall_5 zX1_hasCell mlX9_116 cc1 rfl rfl rfl rfl rfl (Nat.le_of_ble_eq_true rfl) (Nat.le_of_ble_eq_true rfl) ⟨by decide, by decide⟩ ?_
    refine g_hasCF hW hG hc0 ?_
    show WP _ _ 8 _ [.int (xb false)] _ _
    refine xb_if_ne false 13 dX9_wall_8 (by decide) rfl (fun z => absurd z (by decide)) (fun _ => ?_)
    refine xi_iconst (v := (-1)) dX9_wall_11 rfl ?_
    refine xi_iret (v := (-1)) dX9_wall_12 rfl ?_
    have e : st_wall (G, S0, now, late, risk, A, L, sq, nl, rf, hr, lg, w, tp) x0 = (-1, (G, S0, now, late, risk, A, L, sq, nl, rf, hr, lg, w, tp)) := by simp only [st_wall, ec0]
    rw [e] at h
    exact h M hC
  refine xi_aload_n dX9_wall_0 rfl ?_
  refine xi_getR dX9_wall_1 fgX9_10 cc0 rfl ?_
  refine xi_iload_n dX9_wall_4 rfl ?_
  refine xi_callV [.int (nI k0)] [] dX9_wall_5 zX1_hasCell mlX9_116 cc1 rfl rfl rfl rfl rfl (Nat.le_of_ble_eq_true rfl) (Nat.le_of_ble_eq_true rfl) ⟨by decide, by decide⟩ ?_
  refine g_hasCT hW hG (k := k0) (by omega) ?_
  show WP _ _ 8 _ [.int (xb true)] _ _
  refine xb_if_ne true 13 dX9_wall_8 (by decide) rfl (fun _ => ?_) (fun z => absurd z (by decide))
  refine xi_aload_n dX9_wall_13 rfl ?_
  refine xi_callV [] [] dX9_wall_14 zX9_hasStarted mlX9_120 cc0 rfl rfl rfl rfl rfl (Nat.le_of_ble_eq_true rfl) (Nat.le_of_ble_eq_true rfl) ⟨by decide, by decide⟩ ?_
  refine c_started hX hC ?_
  show WP _ _ 17 _ [.int (xb (decide (0 < now ∨ 0 < nl)))] _ _
  refine xb_if_eq (decide (0 < now ∨ 0 < nl)) 23 dX9_wall_17 (by decide) rfl (fun h17 => ?_) (fun h17 => ?_)
  · have e17 := of_decide_eq_false h17
    refine xi_aload_n dX9_wall_23 rfl ?_
    refine xi_getR dX9_wall_24 fgX9_10 cc0 rfl ?_
    refine xi_getR dX9_wall_27 fgX9_124 cc1 rfl ?_
    refine xi_iload_n dX9_wall_30 rfl ?_
    have q1 := wmap k0 (by omega)
    refine xe_iald (v := nI (gmap G k0)) k0 dX9_wall_31 cc2 (by decide) rfl (by omega) (cg_map hG (by omega)) ?_
    refine xi_istore_n (lv' := [some (.ref 0), some (.int (nI k0)), some (.int (nI (gmap G k0)))]) dX9_wall_32 (by decide) rfl ?_
    refine xi_iload_n dX9_wall_33 rfl ?_
    refine xn_if_eq (gmap G k0) 42 dX9_wall_34 (by decide) rfl (by omega) (fun h34 => ?_) (fun h34 => ?_)
    · skip
      refine xi_aload_n dX9_wall_42 rfl ?_
      refine xi_getR dX9_wall_43 fgX9_21 cc0 rfl ?_
      refine xi_iload_n dX9_wall_46 rfl ?_
      refine xi_callV [.int (nI k0)] [] dX9_wall_47 zX6_holdsThing mlX9_127 rfl rfl rfl rfl rfl rfl (Nat.le_of_ble_eq_true rfl) (Nat.le_of_ble_eq_true rfl) ⟨by decide, by decide⟩ ?_
      refine s_has hW hG isSt_first hKF.1 (k := k0) ?_
      show WP _ _ 50 _ [.int (xb (mhas G S0 k0))] _ _
      refine xb_if_eq (mhas G S0 k0) 56 dX9_wall_50 (by decide) rfl (fun h50 => ?_) (fun h50 => ?_)
      · skip
        refine xi_aload_n dX9_wall_56 rfl ?_
        refine xi_getR dX9_wall_57 fgX9_10 cc0 rfl ?_
        refine xi_getR dX9_wall_60 fgX9_124 cc1 rfl ?_
        refine xi_iload_n dX9_wall_63 rfl ?_
        refine xi_iload_n dX9_wall_64 rfl ?_
        refine xn_if_ne (gmap G k0) 72 dX9_wall_65 (by decide) rfl (by omega) (fun h65 => ?_) (fun h65 => ?_)
        · skip
          refine xi_iconst (v := 0) dX9_wall_72 rfl ?_
          refine xe_iast k0 dX9_wall_73 cc2 (by decide) rfl (by omega) ?_
          refine xi_aload_n dX9_wall_74 rfl ?_
          refine xi_getR dX9_wall_75 fgX9_10 cc0 rfl ?_
          refine xi_getR dX9_wall_78 fgX9_124 cc1 rfl ?_
          refine xi_iload_n dX9_wall_81 rfl ?_
          refine xe_iald (v := 0) k0 dX9_wall_82 cc2 (by decide) rfl (by omega) (by rw [xa_s, upd_s]) ?_
          refine xi_iret (v := 0) dX9_wall_83 rfl ?_
          simp only [st_wall, ec0] at h
          rw [if_neg e17, if_neg (fun q => q.elim (fun z => by omega) (fun z => by rw [h50] at z; cases z)), show 1 - gmap G k0 = 0 by omega] at h
          exact h _ (RepC_wall (v := 0) hC (by omega) (by omega))
        · skip
          refine xi_iconst (v := 1) dX9_wall_68 rfl ?_
          refine xi_goto 73 dX9_wall_69 (by decide) ?_
          refine xe_iast k0 dX9_wall_73 cc2 (by decide) rfl (by omega) ?_
          refine xi_aload_n dX9_wall_74 rfl ?_
          refine xi_getR dX9_wall_75 fgX9_10 cc0 rfl ?_
          refine xi_getR dX9_wall_78 fgX9_124 cc1 rfl ?_
          refine xi_iload_n dX9_wall_81 rfl ?_
          refine xe_iald (v := 1) k0 dX9_wall_82 cc2 (by decide) rfl (by omega) (by rw [xa_s, upd_s]) ?_
          refine xi_iret (v := 1) dX9_wall_83 rfl ?_
          simp only [st_wall, ec0] at h
          rw [if_neg e17, if_neg (fun q => q.elim (fun z => by omega) (fun z => by rw [h50] at z; cases z)), show 1 - gmap G k0 = 1 by omega] at h
          exact h _ (RepC_wall (v := 1) hC (by omega) (by omega))
      · skip
        refine xi_bipush (v := (-3)) dX9_wall_53 (by decide) ?_
        refine xi_iret (v := (-3)) dX9_wall_55 rfl ?_
        simp only [st_wall, ec0] at h
        rw [if_neg e17, if_pos (by first | exact Or.inr h50 | (exact Or.inl (by omega)))] at h
        exact h M hC
    · skip
      refine xi_iload_n dX9_wall_37 rfl ?_
      refine xi_iconst (v := 1) dX9_wall_38 rfl ?_
      refine xn_icmp_ne (gmap G k0) 1 53 dX9_wall_39 (by decide) rfl rfl (by omega) (by omega) (fun h39 => ?_) (fun h39 => ?_)
      · skip
        refine xi_bipush (v := (-3)) dX9_wall_53 (by decide) ?_
        refine xi_iret (v := (-3)) dX9_wall_55 rfl ?_
        simp only [st_wall, ec0] at h
        rw [if_neg e17, if_pos (by first | exact Or.inr h50 | (exact Or.inl (by omega)))] at h
        exact h M hC
      · skip
        refine xi_aload_n dX9_wall_42 rfl ?_
        refine xi_getR dX9_wall_43 fgX9_21 cc0 rfl ?_
        refine xi_iload_n dX9_wall_46 rfl ?_
        refine xi_callV [.int (nI k0)] [] dX9_wall_47 zX6_holdsThing mlX9_127 rfl rfl rfl rfl rfl rfl (Nat.le_of_ble_eq_true rfl) (Nat.le_of_ble_eq_true rfl) ⟨by decide, by decide⟩ ?_
        refine s_has hW hG isSt_first hKF.1 (k := k0) ?_
        show WP _ _ 50 _ [.int (xb (mhas G S0 k0))] _ _
        refine xb_if_eq (mhas G S0 k0) 56 dX9_wall_50 (by decide) rfl (fun h50 => ?_) (fun h50 => ?_)
        · skip
          refine xi_aload_n dX9_wall_56 rfl ?_
          refine xi_getR dX9_wall_57 fgX9_10 cc0 rfl ?_
          refine xi_getR dX9_wall_60 fgX9_124 cc1 rfl ?_
          refine xi_iload_n dX9_wall_63 rfl ?_
          refine xi_iload_n dX9_wall_64 rfl ?_
          refine xn_if_ne (gmap G k0) 72 dX9_wall_65 (by decide) rfl (by omega) (fun h65 => ?_) (fun h65 => ?_)
          · skip
            refine xi_iconst (v := 0) dX9_wall_72 rfl ?_
            refine xe_iast k0 dX9_wall_73 cc2 (by decide) rfl (by omega) ?_
            refine xi_aload_n dX9_wall_74 rfl ?_
            refine xi_getR dX9_wall_75 fgX9_10 cc0 rfl ?_
            refine xi_getR dX9_wall_78 fgX9_124 cc1 rfl ?_
            refine xi_iload_n dX9_wall_81 rfl ?_
            refine xe_iald (v := 0) k0 dX9_wall_82 cc2 (by decide) rfl (by omega) (by rw [xa_s, upd_s]) ?_
            refine xi_iret (v := 0) dX9_wall_83 rfl ?_
            simp only [st_wall, ec0] at h
            rw [if_neg e17, if_neg (fun q => q.elim (fun z => by omega) (fun z => by rw [h50] at z; cases z)), show 1 - gmap G k0 = 0 by omega] at h
            exact h _ (RepC_wall (v := 0) hC (by omega) (by omega))
          · skip
            refine xi_iconst (v := 1) dX9_wall_68 rfl ?_
            refine xi_goto 73 dX9_wall_69 (by decide) ?_
            refine xe_iast k0 dX9_wall_73 cc2 (by decide) rfl (by omega) ?_
            refine xi_aload_n dX9_wall_74 rfl ?_
            refine xi_getR dX9_wall_75 fgX9_10 cc0 rfl ?_
            refine xi_getR dX9_wall_78 fgX9_124 cc1 rfl ?_
            refine xi_iload_n dX9_wall_81 rfl ?_
            refine xe_iald (v := 1) k0 dX9_wall_82 cc2 (by decide) rfl (by omega) (by rw [xa_s, upd_s]) ?_
            refine xi_iret (v := 1) dX9_wall_83 rfl ?_
            simp only [st_wall, ec0] at h
            rw [if_neg e17, if_neg (fun q => q.elim (fun z => by omega) (fun z => by rw [h50] at z; cases z)), show 1 - gmap G k0 = 1 by omega] at h
            exact h _ (RepC_wall (v := 1) hC (by omega) (by omega))
        · skip
          refine xi_bipush (v := (-3)) dX9_wall_53 (by decide) ?_
          refine xi_iret (v := (-3)) dX9_wall_55 rfl ?_
          simp only [st_wall, ec0] at h
          rw [if_neg e17, if_pos (by first | exact Or.inr h50 | (exact Or.inl (by omega)))] at h
          exact h M hC
  · have e17 := of_decide_eq_true h17
    refine xi_bipush (v := (-2)) dX9_wall_20 (by decide) ?_
    refine xi_iret (v := (-2)) dX9_wall_22 rfl ?_
    simp only [st_wall, ec0] at h
    rw [if_pos e17] at h
    exact h M hC

set_option maxHeartbeats 4000000 in
set_option maxRecDepth 100000 in
theorem cl_door {X : xX} {M : xM} {Q : Option Value → xM → Prop} (hX : wX X) (hC : RepC X M) (x0 : Int32) (x1 : Int32) (h : ∀ M2, RepC (st_door X x0 x1).2 M2 → Q (some (.int (st_door X x0 x1).1)) M2) : WP shC mX9_door 0 [some (.ref 0), some (.int x0), some (.int x1)] [] M Q := by
  obtain ⟨G, S0, now, late, risk, A, L, sq, nl, rf, hr, lg, w, tp⟩ := X
  obtain ⟨hW, hw0, wn, wl, wr, wA_, wsq, wnl, wmo, wtk, wwt, wtp, wO0, wB0⟩ := id hX
  obtain ⟨b1, b2, b3, b4, b5, b6, b7, b8, b9, wmap, wlink, wk0, wk1, b10, b11, wword⟩ := id hW
  have nb : nl ≤ 2000 := by rw [wnl]; exact mcnt_le 2000
  obtain ⟨hG, hKF, hKR, hL, hKE, hKS, hKW, hKT, hKM⟩ := id hC
  obtain ⟨hno, hla, hri, hnl, hrf, hhr⟩ := id hKM
  have hSn : CS G (Zf G A S0 now) M (61 + 10 * (now % 16)) := hKR.1 now (by omega) (by omega)
  have hwn : wS G (Zf G A S0 now) := wS_Zf hW hw0 now
  rcases xix_cases x0 (n := gN G) (by omega) with ⟨ec0, hc0⟩ | ⟨k0, hk0, rfl, ec0⟩
  · skip
    refine xi_aload_n dX9_door_0 rfl ?_
    refine xi_getR dX9_door_1 fgX9_10 cc0 rfl ?_
    refine xi_iload_n dX9_door_4 rfl ?_
    refine xi_callV [.int x0] [] dX9_door_5 zX1_hasCell mlX9_116 cc1 rfl rfl rfl rfl rfl (Nat.le_of_ble_eq_true rfl) (Nat.le_of_ble_eq_true rfl) ⟨by decide, by decide⟩ ?_
    refine g_hasCF hW hG hc0 ?_
    show WP _ _ 8 _ [.int (xb false)] _ _
    refine xb_if_eq false 21 dX9_door_8 (by decide) rfl (fun _ => ?_) (fun z => absurd z (by decide))
    refine xi_iconst (v := (-1)) dX9_door_21 rfl ?_
    refine xi_iret (v := (-1)) dX9_door_22 rfl ?_
    have e : st_door (G, S0, now, late, risk, A, L, sq, nl, rf, hr, lg, w, tp) x0 x1 = (-1, (G, S0, now, late, risk, A, L, sq, nl, rf, hr, lg, w, tp)) := by simp only [st_door, ec0]
    rw [e] at h
    exact h M hC
  rcases xix_cases x1 (n := 16) (by omega) with ⟨ec1, hc1⟩ | ⟨k1, hk1, rfl, ec1⟩
  · skip
    refine xi_aload_n dX9_door_0 rfl ?_
    refine xi_getR dX9_door_1 fgX9_10 cc0 rfl ?_
    refine xi_iload_n dX9_door_4 rfl ?_
    refine xi_callV [.int (nI k0)] [] dX9_door_5 zX1_hasCell mlX9_116 cc1 rfl rfl rfl rfl rfl (Nat.le_of_ble_eq_true rfl) (Nat.le_of_ble_eq_true rfl) ⟨by decide, by decide⟩ ?_
    refine g_hasCT hW hG (k := k0) (by omega) ?_
    show WP _ _ 8 _ [.int (xb true)] _ _
    refine xb_if_eq true 21 dX9_door_8 (by decide) rfl (fun z => absurd z (by decide)) (fun _ => ?_)
    refine xi_iload_n dX9_door_11 rfl ?_
    refine xi_if_lt 21 dX9_door_12 (by decide) (fun h12 => ?_) (fun h12 => ?_)
    · skip
      refine xi_iconst (v := (-1)) dX9_door_21 rfl ?_
      refine xi_iret (v := (-1)) dX9_door_22 rfl ?_
      have e : st_door (G, S0, now, late, risk, A, L, sq, nl, rf, hr, lg, w, tp) (nI k0) x1 = (-1, (G, S0, now, late, risk, A, L, sq, nl, rf, hr, lg, w, tp)) := by simp only [st_door, ec0, ec1]
      rw [e] at h
      exact h M hC
    · skip
      refine xi_iload_n dX9_door_15 rfl ?_
      refine xi_bipush (v := 15) dX9_door_16 (by decide) ?_
      refine xi_icmp_le 23 dX9_door_18 (by decide) (fun z => (at_rg (r := 15) (by omega) hc1 rfl).elim (fun q => absurd q h12) (fun q => absurd q (Int32.not_lt.mpr z))) (fun h18 => ?_)
      refine xi_iconst (v := (-1)) dX9_door_21 rfl ?_
      refine xi_iret (v := (-1)) dX9_door_22 rfl ?_
      have e : st_door (G, S0, now, late, risk, A, L, sq, nl, rf, hr, lg, w, tp) (nI k0) x1 = (-1, (G, S0, now, late, risk, A, L, sq, nl, rf, hr, lg, w, tp)) := by simp only [st_door, ec0, ec1]
      rw [e] at h
      exact h M hC
  refine xi_aload_n dX9_door_0 rfl ?_
  refine xi_getR dX9_door_1 fgX9_10 cc0 rfl ?_
  refine xi_iload_n dX9_door_4 rfl ?_
  refine xi_callV [.int (nI k0)] [] dX9_door_5 zX1_hasCell mlX9_116 cc1 rfl rfl rfl rfl rfl (Nat.le_of_ble_eq_true rfl) (Nat.le_of_ble_eq_true rfl) ⟨by decide, by decide⟩ ?_
  refine g_hasCT hW hG (k := k0) (by omega) ?_
  show WP _ _ 8 _ [.int (xb true)] _ _
  refine xb_if_eq true 21 dX9_door_8 (by decide) rfl (fun z => absurd z (by decide)) (fun _ => ?_)
  refine xi_iload_n dX9_door_11 rfl ?_
  refine xn_if_lt k1 21 dX9_door_12 (by decide) rfl (by omega) ?_
  refine xi_iload_n dX9_door_15 rfl ?_
  refine xi_bipush (v := 15) dX9_door_16 (by decide) ?_
  refine xn_icmp_le k1 15 23 dX9_door_18 (by decide) rfl rfl (by omega) (by omega) (fun h18 => ?_) (fun z => absurd z (by omega))
  refine xi_aload_n dX9_door_23 rfl ?_
  refine xi_callV [] [] dX9_door_24 zX9_hasStarted mlX9_120 cc0 rfl rfl rfl rfl rfl (Nat.le_of_ble_eq_true rfl) (Nat.le_of_ble_eq_true rfl) ⟨by decide, by decide⟩ ?_
  refine c_started hX hC ?_
  show WP _ _ 27 _ [.int (xb (decide (0 < now ∨ 0 < nl)))] _ _
  refine xb_if_eq (decide (0 < now ∨ 0 < nl)) 33 dX9_door_27 (by decide) rfl (fun h27 => ?_) (fun h27 => ?_)
  · have e27 := of_decide_eq_false h27
    refine xi_aload_n dX9_door_33 rfl ?_
    refine xi_getR dX9_door_34 fgX9_10 cc0 rfl ?_
    refine xi_getR dX9_door_37 fgX9_124 cc1 rfl ?_
    refine xi_iload_n dX9_door_40 rfl ?_
    have q1 := wmap k0 (by omega)
    refine xe_iald (v := nI (gmap G k0)) k0 dX9_door_41 cc2 (by decide) rfl (by omega) (cg_map hG (by omega)) ?_
    refine xn_if_ne (gmap G k0) 56 dX9_door_42 (by decide) rfl (by omega) (fun h42 => ?_) (fun h42 => ?_)
    · skip
      refine xi_bipush (v := (-3)) dX9_door_56 (by decide) ?_
      refine xi_iret (v := (-3)) dX9_door_58 rfl ?_
      simp only [st_door, ec0, ec1] at h
      rw [if_neg e27, if_pos (by first | exact Or.inr h53 | (exact Or.inl (by omega)))] at h
      exact h M hC
    · skip
      refine xi_aload_n dX9_door_45 rfl ?_
      refine xi_getR dX9_door_46 fgX9_21 cc0 rfl ?_
      refine xi_iload_n dX9_door_49 rfl ?_
      refine xi_callV [.int (nI k0)] [] dX9_door_50 zX6_holdsThing mlX9_127 rfl rfl rfl rfl rfl rfl (Nat.le_of_ble_eq_true rfl) (Nat.le_of_ble_eq_true rfl) ⟨by decide, by decide⟩ ?_
      refine s_has hW hG isSt_first hKF.1 (k := k0) ?_
      show WP _ _ 53 _ [.int (xb (mhas G S0 k0))] _ _
      refine xb_if_eq (mhas G S0 k0) 59 dX9_door_53 (by decide) rfl (fun h53 => ?_) (fun h53 => ?_)
      · skip
        refine xi_aload_n dX9_door_59 rfl ?_
        refine xi_getR dX9_door_60 fgX9_10 cc0 rfl ?_
        refine xe_getI (v := nI (gD G)) dX9_door_63 fgX9_130 cc1 rfl (cg_D hG) ?_
        refine xi_bipush (v := 8) dX9_door_66 (by decide) ?_
        refine xn_icmp_lt (gD G) 8 74 dX9_door_68 (by decide) rfl rfl (by omega) (by omega) (fun h68 => ?_) (fun h68 => ?_)
        · skip
          refine xi_aload_n dX9_door_74 rfl ?_
          refine xi_getR dX9_door_75 fgX9_10 cc0 rfl ?_
          refine xi_iload_n dX9_door_78 rfl ?_
          refine xi_iload_n dX9_door_79 rfl ?_
          refine xi_callV [.int (nI k0), .int (nI k1)] [] dX9_door_80 zX1_addDoor mlX9_133 cc1 rfl rfl rfl rfl rfl (Nat.le_of_ble_eq_true rfl) (Nat.le_of_ble_eq_true rfl) ⟨by decide, by decide⟩ ?_
          refine g_addDoor (G := G) (k := k0) (v := k1) (cg_D hG) (by omega) (by omega) ?_
          show WP _ _ 83 _ [.int (nI (gD G))] _ _
          refine xi_iret (v := nI (gD G)) dX9_door_83 rfl ?_
          simp only [st_door, ec0, ec1] at h
          rw [if_neg e27, if_neg (fun q => q.elim (fun z => by omega) (fun z => by rw [h53] at z; cases z)), if_neg (by omega)] at h
          exact h _ (RepC_door hC (by omega) (by omega) wO0)
        · skip
          refine xi_bipush (v := (-4)) dX9_door_71 (by decide) ?_
          refine xi_iret (v := (-4)) dX9_door_73 rfl ?_
          simp only [st_door, ec0, ec1] at h
          rw [if_neg e27, if_neg (fun q => q.elim (fun z => by omega) (fun z => by rw [h53] at z; cases z)), if_pos (by omega)] at h
          exact h M hC
      · skip
        refine xi_bipush (v := (-3)) dX9_door_56 (by decide) ?_
        refine xi_iret (v := (-3)) dX9_door_58 rfl ?_
        simp only [st_door, ec0, ec1] at h
        rw [if_neg e27, if_pos (by first | exact Or.inr h53 | (exact Or.inl (by omega)))] at h
        exact h M hC
  · have e27 := of_decide_eq_true h27
    refine xi_bipush (v := (-2)) dX9_door_30 (by decide) ?_
    refine xi_iret (v := (-2)) dX9_door_32 rfl ?_
    simp only [st_door, ec0, ec1] at h
    rw [if_pos e27] at h
    exact h M hC

set_option maxHeartbeats 4000000 in
set_option maxRecDepth 100000 in
theorem cl_plate {X : xX} {M : xM} {Q : Option Value → xM → Prop} (hX : wX X) (hC : RepC X M) (x0 : Int32) (x1 : Int32) (h : ∀ M2, RepC (st_plate X x0 x1).2 M2 → Q (some (.int (st_plate X x0 x1).1)) M2) : WP shC mX9_plate 0 [some (.ref 0), some (.int x0), some (.int x1)] [] M Q := by
  obtain ⟨G, S0, now, late, risk, A, L, sq, nl, rf, hr, lg, w, tp⟩ := X
  obtain ⟨hW, hw0, wn, wl, wr, wA_, wsq, wnl, wmo, wtk, wwt, wtp, wO0, wB0⟩ := id hX
  obtain ⟨b1, b2, b3, b4, b5, b6, b7, b8, b9, wmap, wlink, wk0, wk1, b10, b11, wword⟩ := id hW
  have nb : nl ≤ 2000 := by rw [wnl]; exact mcnt_le 2000
  obtain ⟨hG, hKF, hKR, hL, hKE, hKS, hKW, hKT, hKM⟩ := id hC
  obtain ⟨hno, hla, hri, hnl, hrf, hhr⟩ := id hKM
  have hSn : CS G (Zf G A S0 now) M (61 + 10 * (now % 16)) := hKR.1 now (by omega) (by omega)
  have hwn : wS G (Zf G A S0 now) := wS_Zf hW hw0 now
  rcases xix_cases x0 (n := gN G) (by omega) with ⟨ec0, hc0⟩ | ⟨k0, hk0, rfl, ec0⟩
  · skip
    refine xi_aload_n dX9_plate_0 rfl ?_
    refine xi_getR dX9_plate_1 fgX9_10 cc0 rfl ?_
    refine xi_iload_n dX9_plate_4 rfl ?_
    refine xi_callV [.int x0] [] dX9_plate_5 zX1_hasCell mlX9_116 cc1 rfl rfl rfl rfl rfl (Nat.le_of_ble_eq_true rfl) (Nat.le_of_ble_eq_true rfl) ⟨by decide, by decide⟩ ?_
    refine g_hasCF hW hG hc0 ?_
    show WP _ _ 8 _ [.int (xb false)] _ _
    refine xb_if_eq false 22 dX9_plate_8 (by decide) rfl (fun _ => ?_) (fun z => absurd z (by decide))
    refine xi_iconst (v := (-1)) dX9_plate_22 rfl ?_
    refine xi_iret (v := (-1)) dX9_plate_23 rfl ?_
    have e : st_plate (G, S0, now, late, risk, A, L, sq, nl, rf, hr, lg, w, tp) x0 x1 = (-1, (G, S0, now, late, risk, A, L, sq, nl, rf, hr, lg, w, tp)) := by simp only [st_plate, ec0]
    rw [e] at h
    exact h M hC
  rcases xix_cases x1 (n := gD G) (by omega) with ⟨ec1, hc1⟩ | ⟨k1, hk1, rfl, ec1⟩
  · skip
    refine xi_aload_n dX9_plate_0 rfl ?_
    refine xi_getR dX9_plate_1 fgX9_10 cc0 rfl ?_
    refine xi_iload_n dX9_plate_4 rfl ?_
    refine xi_callV [.int (nI k0)] [] dX9_plate_5 zX1_hasCell mlX9_116 cc1 rfl rfl rfl rfl rfl (Nat.le_of_ble_eq_true rfl) (Nat.le_of_ble_eq_true rfl) ⟨by decide, by decide⟩ ?_
    refine g_hasCT hW hG (k := k0) (by omega) ?_
    show WP _ _ 8 _ [.int (xb true)] _ _
    refine xb_if_eq true 22 dX9_plate_8 (by decide) rfl (fun z => absurd z (by decide)) (fun _ => ?_)
    refine xi_aload_n dX9_plate_11 rfl ?_
    refine xi_getR dX9_plate_12 fgX9_10 cc0 rfl ?_
    refine xi_iload_n dX9_plate_15 rfl ?_
    refine xi_callV [.int x1] [] dX9_plate_16 zX1_hasDoor mlX9_137 cc1 rfl rfl rfl rfl rfl (Nat.le_of_ble_eq_true rfl) (Nat.le_of_ble_eq_true rfl) ⟨by decide, by decide⟩ ?_
    refine g_hasDF hW hG hc1 ?_
    show WP _ _ 19 _ [.int (xb false)] _ _
    refine xb_if_ne false 24 dX9_plate_19 (by decide) rfl (fun z => absurd z (by decide)) (fun _ => ?_)
    refine xi_iconst (v := (-1)) dX9_plate_22 rfl ?_
    refine xi_iret (v := (-1)) dX9_plate_23 rfl ?_
    have e : st_plate (G, S0, now, late, risk, A, L, sq, nl, rf, hr, lg, w, tp) (nI k0) x1 = (-1, (G, S0, now, late, risk, A, L, sq, nl, rf, hr, lg, w, tp)) := by simp only [st_plate, ec0, ec1]
    rw [e] at h
    exact h M hC
  refine xi_aload_n dX9_plate_0 rfl ?_
  refine xi_getR dX9_plate_1 fgX9_10 cc0 rfl ?_
  refine xi_iload_n dX9_plate_4 rfl ?_
  refine xi_callV [.int (nI k0)] [] dX9_plate_5 zX1_hasCell mlX9_116 cc1 rfl rfl rfl rfl rfl (Nat.le_of_ble_eq_true rfl) (Nat.le_of_ble_eq_true rfl) ⟨by decide, by decide⟩ ?_
  refine g_hasCT hW hG (k := k0) (by omega) ?_
  show WP _ _ 8 _ [.int (xb true)] _ _
  refine xb_if_eq true 22 dX9_plate_8 (by decide) rfl (fun z => absurd z (by decide)) (fun _ => ?_)
  refine xi_aload_n dX9_plate_11 rfl ?_
  refine xi_getR dX9_plate_12 fgX9_10 cc0 rfl ?_
  refine xi_iload_n dX9_plate_15 rfl ?_
  refine xi_callV [.int (nI k1)] [] dX9_plate_16 zX1_hasDoor mlX9_137 cc1 rfl rfl rfl rfl rfl (Nat.le_of_ble_eq_true rfl) (Nat.le_of_ble_eq_true rfl) ⟨by decide, by decide⟩ ?_
  refine g_hasDT hW hG (k := k1) (by omega) ?_
  show WP _ _ 19 _ [.int (xb true)] _ _
  refine xb_if_ne true 24 dX9_plate_19 (by decide) rfl (fun _ => ?_) (fun z => absurd z (by decide))
  refine xi_aload_n dX9_plate_24 rfl ?_
  refine xi_callV [] [] dX9_plate_25 zX9_hasStarted mlX9_120 cc0 rfl rfl rfl rfl rfl (Nat.le_of_ble_eq_true rfl) (Nat.le_of_ble_eq_true rfl) ⟨by decide, by decide⟩ ?_
  refine c_started hX hC ?_
  show WP _ _ 28 _ [.int (xb (decide (0 < now ∨ 0 < nl)))] _ _
  refine xb_if_eq (decide (0 < now ∨ 0 < nl)) 34 dX9_plate_28 (by decide) rfl (fun h28 => ?_) (fun h28 => ?_)
  · have e28 := of_decide_eq_false h28
    refine xi_aload_n dX9_plate_34 rfl ?_
    refine xi_getR dX9_plate_35 fgX9_10 cc0 rfl ?_
    refine xi_getR dX9_plate_38 fgX9_124 cc1 rfl ?_
    refine xi_iload_n dX9_plate_41 rfl ?_
    have q1 := wmap k0 (by omega)
    refine xe_iald (v := nI (gmap G k0)) k0 dX9_plate_42 cc2 (by decide) rfl (by omega) (cg_map hG (by omega)) ?_
    refine xn_if_eq (gmap G k0) 49 dX9_plate_43 (by decide) rfl (by omega) (fun h43 => ?_) (fun h43 => ?_)
    · skip
      refine xi_aload_n dX9_plate_49 rfl ?_
      refine xi_getR dX9_plate_50 fgX9_10 cc0 rfl ?_
      refine xi_getR dX9_plate_53 fgX9_124 cc1 rfl ?_
      refine xi_iload_n dX9_plate_56 rfl ?_
      refine xi_iconst (v := 3) dX9_plate_57 rfl ?_
      refine xe_iast k0 dX9_plate_58 cc2 (by decide) rfl (by omega) ?_
      refine xi_aload_n dX9_plate_59 rfl ?_
      refine xi_getR dX9_plate_60 fgX9_10 cc0 rfl ?_
      refine xi_getR dX9_plate_63 fgX9_140 cc1 rfl ?_
      refine xi_iload_n dX9_plate_66 rfl ?_
      refine xi_iload_n dX9_plate_67 rfl ?_
      refine xat 68 rfl ?_
      refine xe_iast k0 dX9_plate_68 cc3 (by decide) rfl (by omega) ?_
      have wGp : wG (uPlate G k0 k1) := wG_plate hW hk1
      have hwp : wS (uPlate G k0 k1) S0 := wS_gr hw0 rfl rfl rfl rfl
      refine xi_aload_n dX9_plate_69 rfl ?_
      refine xi_getR dX9_plate_70 fgX9_21 cc0 rfl ?_
      refine xi_callV [] [] dX9_plate_73 zX6_readPlates mlX9_143 rfl rfl rfl rfl rfl rfl (Nat.le_of_ble_eq_true rfl) (Nat.le_of_ble_eq_true rfl) ⟨by decide, by decide⟩ ?_
      refine s_platesK wGp (CG_plate hG) isSt_first (show CS (uPlate G k0 k1) S0 _ 231 from hKF.1.sm ((sC2.xa (by omega)).tr (sC2.xa (by omega)))) hwp (fun M2 F2 S2 => ?_)
      show WP _ _ 76 _ [] _ _
      refine xi_aload_n dX9_plate_76 rfl ?_
      refine xi_getR dX9_plate_77 fgX9_30 cc0 rfl ?_
      refine xi_aload_n dX9_plate_80 rfl ?_
      refine xi_getR dX9_plate_81 fgX9_21 cc0 rfl ?_
      refine xi_callV [.ref 231] [] dX9_plate_84 zX5_restart mlX9_83 cc9 rfl rfl rfl rfl rfl (Nat.le_of_ble_eq_true rfl) (Nat.le_of_ble_eq_true rfl) ⟨by decide, by decide⟩ ?_
      refine s_rs9C isSt_first (fun M3 C3 => ?_)
      show WP _ _ 87 _ [] _ _
      refine xi_iconst (v := 3) dX9_plate_87 rfl ?_
      refine xi_iret (v := 3) dX9_plate_88 rfl ?_
      simp only [st_plate, ec0, ec1] at h
      rw [if_neg e28, if_neg (by omega)] at h
      exact h _ (RepC_plate hC (by omega) wGp F2 S2 C3)
    · skip
      refine xi_bipush (v := (-3)) dX9_plate_46 (by decide) ?_
      refine xi_iret (v := (-3)) dX9_plate_48 rfl ?_
      simp only [st_plate, ec0, ec1] at h
      rw [if_neg e28, if_pos (by omega)] at h
      exact h M hC
  · have e28 := of_decide_eq_true h28
    refine xi_bipush (v := (-2)) dX9_plate_31 (by decide) ?_
    refine xi_iret (v := (-2)) dX9_plate_33 rfl ?_
    simp only [st_plate, ec0, ec1] at h
    rw [if_pos e28] at h
    exact h M hC

set_option maxHeartbeats 4000000 in
set_option maxRecDepth 100000 in
theorem cl_place {X : xX} {M : xM} {Q : Option Value → xM → Prop} (hX : wX X) (hC : RepC X M) (x0 : Int32) (x1 : Int32) (h : ∀ M2, RepC (st_place X x0 x1).2 M2 → Q (some (.int (st_place X x0 x1).1)) M2) : WP shC mX9_place 0 [some (.ref 0), some (.int x0), some (.int x1), none, none] [] M Q := by
  obtain ⟨G, S0, now, late, risk, A, L, sq, nl, rf, hr, lg, w, tp⟩ := X
  obtain ⟨hW, hw0, wn, wl, wr, wA_, wsq, wnl, wmo, wtk, wwt, wtp, wO0, wB0⟩ := id hX
  obtain ⟨b1, b2, b3, b4, b5, b6, b7, b8, b9, wmap, wlink, wk0, wk1, b10, b11, wword⟩ := id hW
  have nb : nl ≤ 2000 := by rw [wnl]; exact mcnt_le 2000
  obtain ⟨hG, hKF, hKR, hL, hKE, hKS, hKW, hKT, hKM⟩ := id hC
  obtain ⟨hno, hla, hri, hnl, hrf, hhr⟩ := id hKM
  have hSn : CS G (Zf G A S0 now) M (61 + 10 * (now % 16)) := hKR.1 now (by omega) (by omega)
  have hwn : wS G (Zf G A S0 now) := wS_Zf hW hw0 now
  rcases xrg_cases x0 (lo := 1) (hi := 7) (by omega) (by omega) with ⟨ec0, hc0⟩ | ⟨k0, hk0, hl0, rfl, ec0⟩
  · skip
    refine xi_iload_n dX9_place_0 rfl ?_
    refine xi_iconst (v := 1) dX9_place_1 rfl ?_
    refine xi_icmp_lt 22 dX9_place_2 (by decide) (fun h2 => ?_) (fun h2 => ?_)
    · skip
      refine xi_iconst (v := (-1)) dX9_place_22 rfl ?_
      refine xi_iret (v := (-1)) dX9_place_23 rfl ?_
      have e : st_place (G, S0, now, late, risk, A, L, sq, nl, rf, hr, lg, w, tp) x0 x1 = (-1, (G, S0, now, late, risk, A, L, sq, nl, rf, hr, lg, w, tp)) := by simp only [st_place, ec0]
      rw [e] at h
      exact h M hC
    · skip
      refine xi_iload_n dX9_place_5 rfl ?_
      refine xi_bipush (v := 7) dX9_place_6 (by decide) ?_
      refine xi_icmp_gt 22 dX9_place_8 (by decide) (fun h8 => ?_) (fun z => hc0.elim (fun q => absurd q h2) (fun q => absurd q z))
      refine xi_iconst (v := (-1)) dX9_place_22 rfl ?_
      refine xi_iret (v := (-1)) dX9_place_23 rfl ?_
      have e : st_place (G, S0, now, late, risk, A, L, sq, nl, rf, hr, lg, w, tp) x0 x1 = (-1, (G, S0, now, late, risk, A, L, sq, nl, rf, hr, lg, w, tp)) := by simp only [st_place, ec0]
      rw [e] at h
      exact h M hC
  rcases xix_cases x1 (n := gN G) (by omega) with ⟨ec1, hc1⟩ | ⟨k1, hk1, rfl, ec1⟩
  · skip
    refine xi_iload_n dX9_place_0 rfl ?_
    refine xi_iconst (v := 1) dX9_place_1 rfl ?_
    refine xn_icmp_lt k0 1 22 dX9_place_2 (by decide) rfl rfl (by omega) (by omega) (fun z => absurd z (by omega)) (fun h2 => ?_)
    refine xi_iload_n dX9_place_5 rfl ?_
    refine xi_bipush (v := 7) dX9_place_6 (by decide) ?_
    refine xn_icmp_gt k0 7 22 dX9_place_8 (by decide) rfl rfl (by omega) (by omega) (fun z => absurd z (by omega)) (fun h8 => ?_)
    refine xi_aload_n dX9_place_11 rfl ?_
    refine xi_getR dX9_place_12 fgX9_10 cc0 rfl ?_
    refine xi_iload_n dX9_place_15 rfl ?_
    refine xi_callV [.int x1] [] dX9_place_16 zX1_hasCell mlX9_116 cc1 rfl rfl rfl rfl rfl (Nat.le_of_ble_eq_true rfl) (Nat.le_of_ble_eq_true rfl) ⟨by decide, by decide⟩ ?_
    refine g_hasCF hW hG hc1 ?_
    show WP _ _ 19 _ [.int (xb false)] _ _
    refine xb_if_ne false 24 dX9_place_19 (by decide) rfl (fun z => absurd z (by decide)) (fun _ => ?_)
    refine xi_iconst (v := (-1)) dX9_place_22 rfl ?_
    refine xi_iret (v := (-1)) dX9_place_23 rfl ?_
    have e : st_place (G, S0, now, late, risk, A, L, sq, nl, rf, hr, lg, w, tp) (nI k0) x1 = (-1, (G, S0, now, late, risk, A, L, sq, nl, rf, hr, lg, w, tp)) := by simp only [st_place, ec0, ec1]
    rw [e] at h
    exact h M hC
  refine xi_iload_n dX9_place_0 rfl ?_
  refine xi_iconst (v := 1) dX9_place_1 rfl ?_
  refine xn_icmp_lt k0 1 22 dX9_place_2 (by decide) rfl rfl (by omega) (by omega) (fun z => absurd z (by omega)) (fun h2 => ?_)
  refine xi_iload_n dX9_place_5 rfl ?_
  refine xi_bipush (v := 7) dX9_place_6 (by decide) ?_
  refine xn_icmp_gt k0 7 22 dX9_place_8 (by decide) rfl rfl (by omega) (by omega) (fun z => absurd z (by omega)) (fun h8 => ?_)
  refine xi_aload_n dX9_place_11 rfl ?_
  refine xi_getR dX9_place_12 fgX9_10 cc0 rfl ?_
  refine xi_iload_n dX9_place_15 rfl ?_
  refine xi_callV [.int (nI k1)] [] dX9_place_16 zX1_hasCell mlX9_116 cc1 rfl rfl rfl rfl rfl (Nat.le_of_ble_eq_true rfl) (Nat.le_of_ble_eq_true rfl) ⟨by decide, by decide⟩ ?_
  refine g_hasCT hW hG (k := k1) (by omega) ?_
  show WP _ _ 19 _ [.int (xb true)] _ _
  refine xb_if_ne true 24 dX9_place_19 (by decide) rfl (fun _ => ?_) (fun z => absurd z (by decide))
  refine xi_aload_n dX9_place_24 rfl ?_
  refine xi_callV [] [] dX9_place_25 zX9_hasStarted mlX9_120 cc0 rfl rfl rfl rfl rfl (Nat.le_of_ble_eq_true rfl) (Nat.le_of_ble_eq_true rfl) ⟨by decide, by decide⟩ ?_
  refine c_started hX hC ?_
  show WP _ _ 28 _ [.int (xb (decide (0 < now ∨ 0 < nl)))] _ _
  refine xb_if_eq (decide (0 < now ∨ 0 < nl)) 34 dX9_place_28 (by decide) rfl (fun h28 => ?_) (fun h28 => ?_)
  · have e28 := of_decide_eq_false h28
    refine xi_iload_n dX9_place_34 rfl ?_
    refine xi_iconst (v := 1) dX9_place_35 rfl ?_
    refine xn_icmp_eq k0 1 44 dX9_place_36 (by decide) rfl rfl (by omega) (by omega) (fun h36 => ?_) (fun h36 => ?_)
    · skip
      refine xi_iconst (v := 1) dX9_place_44 rfl ?_
      refine xi_goto 49 dX9_place_45 (by decide) ?_
      refine xi_istore_n (lv' := [some (.ref 0), some (.int (nI k0)), some (.int (nI k1)), some (.int 1), none]) dX9_place_49 (by decide) rfl ?_
      refine xi_aload_n dX9_place_50 rfl ?_
      refine xi_getR dX9_place_51 fgX9_10 cc0 rfl ?_
      refine xi_getR dX9_place_54 fgX9_124 cc1 rfl ?_
      refine xi_iload_n dX9_place_57 rfl ?_
      have q1 := wmap k1 (by omega)
      refine xe_iald (v := nI (gmap G k1)) k1 dX9_place_58 cc2 (by decide) rfl (by omega) (cg_map hG (by omega)) ?_
      refine xi_iconst (v := 1) dX9_place_59 rfl ?_
      refine xn_icmp_eq (gmap G k1) 1 91 dX9_place_60 (by decide) rfl rfl (by omega) (by omega) (fun h60 => ?_) (fun h60 => ?_)
      · skip
        refine xi_bipush (v := (-3)) dX9_place_91 (by decide) ?_
        refine xi_iret (v := (-3)) dX9_place_93 rfl ?_
        simp only [st_place, ec0, ec1] at h
        rw [if_neg e28, if_pos (by first | exact Or.inl h60 | exact Or.inr (Or.inl h73) | exact Or.inr (Or.inr ⟨by omega, by rw [eo85]; rfl⟩))] at h
        exact h M hC
      · skip
        refine xi_aload_n dX9_place_63 rfl ?_
        refine xi_getR dX9_place_64 fgX9_10 cc0 rfl ?_
        refine xi_getR dX9_place_67 fgX9_124 cc1 rfl ?_
        refine xi_iload_n dX9_place_70 rfl ?_
        have q2 := wmap k1 (by omega)
        refine xe_iald (v := nI (gmap G k1)) k1 dX9_place_71 cc2 (by decide) rfl (by omega) (cg_map hG (by omega)) ?_
        refine xi_iconst (v := 2) dX9_place_72 rfl ?_
        refine xn_icmp_eq (gmap G k1) 2 91 dX9_place_73 (by decide) rfl rfl (by omega) (by omega) (fun h73 => ?_) (fun h73 => ?_)
        · skip
          refine xi_bipush (v := (-3)) dX9_place_91 (by decide) ?_
          refine xi_iret (v := (-3)) dX9_place_93 rfl ?_
          simp only [st_place, ec0, ec1] at h
          rw [if_neg e28, if_pos (by first | exact Or.inl h60 | exact Or.inr (Or.inl h73) | exact Or.inr (Or.inr ⟨by omega, by rw [eo85]; rfl⟩))] at h
          exact h M hC
        · skip
          refine xi_iload_n dX9_place_76 rfl ?_
          refine xn_if_eq 1 94 dX9_place_77 (by decide) rfl (by omega) (fun h77 => ?_) (fun h77 => ?_)
          · omega
          · skip
            refine xi_aload_n dX9_place_80 rfl ?_
            refine xi_getR dX9_place_81 fgX9_21 cc0 rfl ?_
            refine xi_iload_n dX9_place_84 rfl ?_
            refine xi_callV [.int (nI k1)] [] dX9_place_85 zX6_standingIn mlX9_146 rfl rfl rfl rfl rfl rfl (Nat.le_of_ble_eq_true rfl) (Nat.le_of_ble_eq_true rfl) ⟨by decide, by decide⟩ ?_
            refine s_stand hW hG isSt_first hKF.1 hw0 (k := k1) ?_
            show WP _ _ 88 _ [.int (xo (mstand G S0 k1))] _ _
            generalize eo85 : mstand G S0 k1 = o85
            refine xo_if_lt o85 94 dX9_place_88 (by decide) rfl (fun j z => by have := mstand_lt (eo85.trans z); omega) (fun h88 => ?_) (fun j88 h88 => ?_)
            · subst h88
              refine xi_aload_n dX9_place_94 rfl ?_
              refine xi_getR dX9_place_95 fgX9_10 cc0 rfl ?_
              refine xe_getI (v := nI (gT G)) dX9_place_98 fgX9_150 cc1 rfl (cg_T hG) ?_
              refine xi_bipush (v := 16) dX9_place_101 (by decide) ?_
              refine xn_icmp_lt (gT G) 16 109 dX9_place_103 (by decide) rfl rfl (by omega) (by omega) (fun h103 => ?_) (fun h103 => ?_)
              · skip
                refine xi_aload_n dX9_place_109 rfl ?_
                refine xi_getR dX9_place_110 fgX9_10 cc0 rfl ?_
                refine xi_iload_n dX9_place_113 rfl ?_
                refine xi_callV [.int (nI k0)] [] dX9_place_114 zX1_addThing mlX9_153 cc1 rfl rfl rfl rfl rfl (Nat.le_of_ble_eq_true rfl) (Nat.le_of_ble_eq_true rfl) ⟨by decide, by decide⟩ ?_
                refine g_addThing (G := G) (q := k0) (cg_T hG) (by omega) ?_
                show WP _ _ 117 _ [.int (nI (gT G))] _ _
                refine xi_istore (lv' := [some (.ref 0), some (.int (nI k0)), some (.int (nI k1)), some (.int 1), some (.int (nI (gT G)))]) dX9_place_117 (by decide) rfl ?_
                refine xi_aload_n dX9_place_119 rfl ?_
                refine xi_getR dX9_place_120 fgX9_21 cc0 rfl ?_
                refine xi_iload dX9_place_123 rfl ?_
                refine xi_iload_n dX9_place_125 rfl ?_
                refine xi_iload_n dX9_place_126 rfl ?_
                refine xi_callV [.int (nI (gT G)), .int (nI k0), .int (nI k1)] [] dX9_place_127 zX6_putNew mlX9_156 rfl rfl rfl rfl rfl rfl (Nat.le_of_ble_eq_true rfl) (Nat.le_of_ble_eq_true rfl) ⟨by decide, by decide⟩ ?_
                refine s_putNew isSt_first (n := gT G) (q := k0) (c := nI k1) (by omega) (by omega) ?_
                show WP _ _ 130 _ [] _ _
                refine xi_aload_n dX9_place_130 rfl ?_
                refine xi_getR dX9_place_131 fgX9_30 cc0 rfl ?_
                refine xi_aload_n dX9_place_134 rfl ?_
                refine xi_getR dX9_place_135 fgX9_21 cc0 rfl ?_
                refine xi_callV [.ref 231] [] dX9_place_138 zX5_restart mlX9_83 cc9 rfl rfl rfl rfl rfl (Nat.le_of_ble_eq_true rfl) (Nat.le_of_ble_eq_true rfl) ⟨by decide, by decide⟩ ?_
                refine s_rs9C isSt_first (fun M3 C3 => ?_)
                show WP _ _ 141 _ [] _ _
                refine xi_iload dX9_place_141 rfl ?_
                refine xi_iret (v := nI (gT G)) dX9_place_143 rfl ?_
                simp only [st_place, ec0, ec1] at h
                rw [if_neg e28, if_neg (fun q => q.elim (fun z => h60 z) (fun y => y.elim (fun z => h73 z) (fun z => by first | omega | (have z2 := z.2; rw [eo85] at z2; cases z2)))), if_neg (by omega)] at h
                exact h _ (RepC_place hC (by omega) (by omega) (wG_thing hW hk0 hl0 (by omega)) wB0 rfl C3)
              · skip
                refine xi_bipush (v := (-4)) dX9_place_106 (by decide) ?_
                refine xi_iret (v := (-4)) dX9_place_108 rfl ?_
                simp only [st_place, ec0, ec1] at h
                rw [if_neg e28, if_neg (fun q => q.elim (fun z => h60 z) (fun y => y.elim (fun z => h73 z) (fun z => by first | omega | (have z2 := z.2; rw [eo85] at z2; cases z2)))), if_pos (by omega)] at h
                exact h M hC
            · subst h88
              refine xi_bipush (v := (-3)) dX9_place_91 (by decide) ?_
              refine xi_iret (v := (-3)) dX9_place_93 rfl ?_
              simp only [st_place, ec0, ec1] at h
              rw [if_neg e28, if_pos (by first | exact Or.inl h60 | exact Or.inr (Or.inl h73) | exact Or.inr (Or.inr ⟨by omega, by rw [eo85]; rfl⟩))] at h
              exact h M hC
    · skip
      refine xi_iload_n dX9_place_39 rfl ?_
      refine xi_iconst (v := 2) dX9_place_40 rfl ?_
      refine xn_icmp_ne k0 2 48 dX9_place_41 (by decide) rfl rfl (by omega) (by omega) (fun h41 => ?_) (fun h41 => ?_)
      · skip
        refine xi_iconst (v := 0) dX9_place_48 rfl ?_
        refine xi_istore_n (lv' := [some (.ref 0), some (.int (nI k0)), some (.int (nI k1)), some (.int 0), none]) dX9_place_49 (by decide) rfl ?_
        refine xi_aload_n dX9_place_50 rfl ?_
        refine xi_getR dX9_place_51 fgX9_10 cc0 rfl ?_
        refine xi_getR dX9_place_54 fgX9_124 cc1 rfl ?_
        refine xi_iload_n dX9_place_57 rfl ?_
        have q3 := wmap k1 (by omega)
        refine xe_iald (v := nI (gmap G k1)) k1 dX9_place_58 cc2 (by decide) rfl (by omega) (cg_map hG (by omega)) ?_
        refine xi_iconst (v := 1) dX9_place_59 rfl ?_
        refine xn_icmp_eq (gmap G k1) 1 91 dX9_place_60 (by decide) rfl rfl (by omega) (by omega) (fun h60 => ?_) (fun h60 => ?_)
        · skip
          refine xi_bipush (v := (-3)) dX9_place_91 (by decide) ?_
          refine xi_iret (v := (-3)) dX9_place_93 rfl ?_
          simp only [st_place, ec0, ec1] at h
          rw [if_neg e28, if_pos (by first | exact Or.inl h60 | exact Or.inr (Or.inl h73) | exact Or.inr (Or.inr ⟨by omega, by rw [eo85]; rfl⟩))] at h
          exact h M hC
        · skip
          refine xi_aload_n dX9_place_63 rfl ?_
          refine xi_getR dX9_place_64 fgX9_10 cc0 rfl ?_
          refine xi_getR dX9_place_67 fgX9_124 cc1 rfl ?_
          refine xi_iload_n dX9_place_70 rfl ?_
          have q4 := wmap k1 (by omega)
          refine xe_iald (v := nI (gmap G k1)) k1 dX9_place_71 cc2 (by decide) rfl (by omega) (cg_map hG (by omega)) ?_
          refine xi_iconst (v := 2) dX9_place_72 rfl ?_
          refine xn_icmp_eq (gmap G k1) 2 91 dX9_place_73 (by decide) rfl rfl (by omega) (by omega) (fun h73 => ?_) (fun h73 => ?_)
          · skip
            refine xi_bipush (v := (-3)) dX9_place_91 (by decide) ?_
            refine xi_iret (v := (-3)) dX9_place_93 rfl ?_
            simp only [st_place, ec0, ec1] at h
            rw [if_neg e28, if_pos (by first | exact Or.inl h60 | exact Or.inr (Or.inl h73) | exact Or.inr (Or.inr ⟨by omega, by rw [eo85]; rfl⟩))] at h
            exact h M hC
          · skip
            refine xi_iload_n dX9_place_76 rfl ?_
            refine xn_if_eq 0 94 dX9_place_77 (by decide) rfl (by omega) (fun h77 => ?_) (fun h77 => ?_)
            · skip
              refine xi_aload_n dX9_place_94 rfl ?_
              refine xi_getR dX9_place_95 fgX9_10 cc0 rfl ?_
              refine xe_getI (v := nI (gT G)) dX9_place_98 fgX9_150 cc1 rfl (cg_T hG) ?_
              refine xi_bipush (v := 16) dX9_place_101 (by decide) ?_
              refine xn_icmp_lt (gT G) 16 109 dX9_place_103 (by decide) rfl rfl (by omega) (by omega) (fun h103 => ?_) (fun h103 => ?_)
              · skip
                refine xi_aload_n dX9_place_109 rfl ?_
                refine xi_getR dX9_place_110 fgX9_10 cc0 rfl ?_
                refine xi_iload_n dX9_place_113 rfl ?_
                refine xi_callV [.int (nI k0)] [] dX9_place_114 zX1_addThing mlX9_153 cc1 rfl rfl rfl rfl rfl (Nat.le_of_ble_eq_true rfl) (Nat.le_of_ble_eq_true rfl) ⟨by decide, by decide⟩ ?_
                refine g_addThing (G := G) (q := k0) (cg_T hG) (by omega) ?_
                show WP _ _ 117 _ [.int (nI (gT G))] _ _
                refine xi_istore (lv' := [some (.ref 0), some (.int (nI k0)), some (.int (nI k1)), some (.int 0), some (.int (nI (gT G)))]) dX9_place_117 (by decide) rfl ?_
                refine xi_aload_n dX9_place_119 rfl ?_
                refine xi_getR dX9_place_120 fgX9_21 cc0 rfl ?_
                refine xi_iload dX9_place_123 rfl ?_
                refine xi_iload_n dX9_place_125 rfl ?_
                refine xi_iload_n dX9_place_126 rfl ?_
                refine xi_callV [.int (nI (gT G)), .int (nI k0), .int (nI k1)] [] dX9_place_127 zX6_putNew mlX9_156 rfl rfl rfl rfl rfl rfl (Nat.le_of_ble_eq_true rfl) (Nat.le_of_ble_eq_true rfl) ⟨by decide, by decide⟩ ?_
                refine s_putNew isSt_first (n := gT G) (q := k0) (c := nI k1) (by omega) (by omega) ?_
                show WP _ _ 130 _ [] _ _
                refine xi_aload_n dX9_place_130 rfl ?_
                refine xi_getR dX9_place_131 fgX9_30 cc0 rfl ?_
                refine xi_aload_n dX9_place_134 rfl ?_
                refine xi_getR dX9_place_135 fgX9_21 cc0 rfl ?_
                refine xi_callV [.ref 231] [] dX9_place_138 zX5_restart mlX9_83 cc9 rfl rfl rfl rfl rfl (Nat.le_of_ble_eq_true rfl) (Nat.le_of_ble_eq_true rfl) ⟨by decide, by decide⟩ ?_
                refine s_rs9C isSt_first (fun M3 C3 => ?_)
                show WP _ _ 141 _ [] _ _
                refine xi_iload dX9_place_141 rfl ?_
                refine xi_iret (v := nI (gT G)) dX9_place_143 rfl ?_
                simp only [st_place, ec0, ec1] at h
                rw [if_neg e28, if_neg (fun q => q.elim (fun z => h60 z) (fun y => y.elim (fun z => h73 z) (fun z => by first | omega | (have z2 := z.2; rw [eo85] at z2; cases z2)))), if_neg (by omega)] at h
                exact h _ (RepC_place hC (by omega) (by omega) (wG_thing hW hk0 hl0 (by omega)) wB0 rfl C3)
              · skip
                refine xi_bipush (v := (-4)) dX9_place_106 (by decide) ?_
                refine xi_iret (v := (-4)) dX9_place_108 rfl ?_
                simp only [st_place, ec0, ec1] at h
                rw [if_neg e28, if_neg (fun q => q.elim (fun z => h60 z) (fun y => y.elim (fun z => h73 z) (fun z => by first | omega | (have z2 := z.2; rw [eo85] at z2; cases z2)))), if_pos (by omega)] at h
                exact h M hC
            · omega
      · skip
        refine xi_iconst (v := 1) dX9_place_44 rfl ?_
        refine xi_goto 49 dX9_place_45 (by decide) ?_
        refine xi_istore_n (lv' := [some (.ref 0), some (.int (nI k0)), some (.int (nI k1)), some (.int 1), none]) dX9_place_49 (by decide) rfl ?_
        refine xi_aload_n dX9_place_50 rfl ?_
        refine xi_getR dX9_place_51 fgX9_10 cc0 rfl ?_
        refine xi_getR dX9_place_54 fgX9_124 cc1 rfl ?_
        refine xi_iload_n dX9_place_57 rfl ?_
        have q5 := wmap k1 (by omega)
        refine xe_iald (v := nI (gmap G k1)) k1 dX9_place_58 cc2 (by decide) rfl (by omega) (cg_map hG (by omega)) ?_
        refine xi_iconst (v := 1) dX9_place_59 rfl ?_
        refine xn_icmp_eq (gmap G k1) 1 91 dX9_place_60 (by decide) rfl rfl (by omega) (by omega) (fun h60 => ?_) (fun h60 => ?_)
        · skip
          refine xi_bipush (v := (-3)) dX9_place_91 (by decide) ?_
          refine xi_iret (v := (-3)) dX9_place_93 rfl ?_
          simp only [st_place, ec0, ec1] at h
          rw [if_neg e28, if_pos (by first | exact Or.inl h60 | exact Or.inr (Or.inl h73) | exact Or.inr (Or.inr ⟨by omega, by rw [eo85]; rfl⟩))] at h
          exact h M hC
        · skip
          refine xi_aload_n dX9_place_63 rfl ?_
          refine xi_getR dX9_place_64 fgX9_10 cc0 rfl ?_
          refine xi_getR dX9_place_67 fgX9_124 cc1 rfl ?_
          refine xi_iload_n dX9_place_70 rfl ?_
          have q6 := wmap k1 (by omega)
          refine xe_iald (v := nI (gmap G k1)) k1 dX9_place_71 cc2 (by decide) rfl (by omega) (cg_map hG (by omega)) ?_
          refine xi_iconst (v := 2) dX9_place_72 rfl ?_
          refine xn_icmp_eq (gmap G k1) 2 91 dX9_place_73 (by decide) rfl rfl (by omega) (by omega) (fun h73 => ?_) (fun h73 => ?_)
          · skip
            refine xi_bipush (v := (-3)) dX9_place_91 (by decide) ?_
            refine xi_iret (v := (-3)) dX9_place_93 rfl ?_
            simp only [st_place, ec0, ec1] at h
            rw [if_neg e28, if_pos (by first | exact Or.inl h60 | exact Or.inr (Or.inl h73) | exact Or.inr (Or.inr ⟨by omega, by rw [eo85]; rfl⟩))] at h
            exact h M hC
          · skip
            refine xi_iload_n dX9_place_76 rfl ?_
            refine xn_if_eq 1 94 dX9_place_77 (by decide) rfl (by omega) (fun h77 => ?_) (fun h77 => ?_)
            · omega
            · skip
              refine xi_aload_n dX9_place_80 rfl ?_
              refine xi_getR dX9_place_81 fgX9_21 cc0 rfl ?_
              refine xi_iload_n dX9_place_84 rfl ?_
              refine xi_callV [.int (nI k1)] [] dX9_place_85 zX6_standingIn mlX9_146 rfl rfl rfl rfl rfl rfl (Nat.le_of_ble_eq_true rfl) (Nat.le_of_ble_eq_true rfl) ⟨by decide, by decide⟩ ?_
              refine s_stand hW hG isSt_first hKF.1 hw0 (k := k1) ?_
              show WP _ _ 88 _ [.int (xo (mstand G S0 k1))] _ _
              generalize eo85 : mstand G S0 k1 = o85
              refine xo_if_lt o85 94 dX9_place_88 (by decide) rfl (fun j z => by have := mstand_lt (eo85.trans z); omega) (fun h88 => ?_) (fun j88 h88 => ?_)
              · subst h88
                refine xi_aload_n dX9_place_94 rfl ?_
                refine xi_getR dX9_place_95 fgX9_10 cc0 rfl ?_
                refine xe_getI (v := nI (gT G)) dX9_place_98 fgX9_150 cc1 rfl (cg_T hG) ?_
                refine xi_bipush (v := 16) dX9_place_101 (by decide) ?_
                refine xn_icmp_lt (gT G) 16 109 dX9_place_103 (by decide) rfl rfl (by omega) (by omega) (fun h103 => ?_) (fun h103 => ?_)
                · skip
                  refine xi_aload_n dX9_place_109 rfl ?_
                  refine xi_getR dX9_place_110 fgX9_10 cc0 rfl ?_
                  refine xi_iload_n dX9_place_113 rfl ?_
                  refine xi_callV [.int (nI k0)] [] dX9_place_114 zX1_addThing mlX9_153 cc1 rfl rfl rfl rfl rfl (Nat.le_of_ble_eq_true rfl) (Nat.le_of_ble_eq_true rfl) ⟨by decide, by decide⟩ ?_
                  refine g_addThing (G := G) (q := k0) (cg_T hG) (by omega) ?_
                  show WP _ _ 117 _ [.int (nI (gT G))] _ _
                  refine xi_istore (lv' := [some (.ref 0), some (.int (nI k0)), some (.int (nI k1)), some (.int 1), some (.int (nI (gT G)))]) dX9_place_117 (by decide) rfl ?_
                  refine xi_aload_n dX9_place_119 rfl ?_
                  refine xi_getR dX9_place_120 fgX9_21 cc0 rfl ?_
                  refine xi_iload dX9_place_123 rfl ?_
                  refine xi_iload_n dX9_place_125 rfl ?_
                  refine xi_iload_n dX9_place_126 rfl ?_
                  refine xi_callV [.int (nI (gT G)), .int (nI k0), .int (nI k1)] [] dX9_place_127 zX6_putNew mlX9_156 rfl rfl rfl rfl rfl rfl (Nat.le_of_ble_eq_true rfl) (Nat.le_of_ble_eq_true rfl) ⟨by decide, by decide⟩ ?_
                  refine s_putNew isSt_first (n := gT G) (q := k0) (c := nI k1) (by omega) (by omega) ?_
                  show WP _ _ 130 _ [] _ _
                  refine xi_aload_n dX9_place_130 rfl ?_
                  refine xi_getR dX9_place_131 fgX9_30 cc0 rfl ?_
                  refine xi_aload_n dX9_place_134 rfl ?_
                  refine xi_getR dX9_place_135 fgX9_21 cc0 rfl ?_
                  refine xi_callV [.ref 231] [] dX9_place_138 zX5_restart mlX9_83 cc9 rfl rfl rfl rfl rfl (Nat.le_of_ble_eq_true rfl) (Nat.le_of_ble_eq_true rfl) ⟨by decide, by decide⟩ ?_
                  refine s_rs9C isSt_first (fun M3 C3 => ?_)
                  show WP _ _ 141 _ [] _ _
                  refine xi_iload dX9_place_141 rfl ?_
                  refine xi_iret (v := nI (gT G)) dX9_place_143 rfl ?_
                  simp only [st_place, ec0, ec1] at h
                  rw [if_neg e28, if_neg (fun q => q.elim (fun z => h60 z) (fun y => y.elim (fun z => h73 z) (fun z => by first | omega | (have z2 := z.2; rw [eo85] at z2; cases z2)))), if_neg (by omega)] at h
                  exact h _ (RepC_place hC (by omega) (by omega) (wG_thing hW hk0 hl0 (by omega)) wB0 rfl C3)
                · skip
                  refine xi_bipush (v := (-4)) dX9_place_106 (by decide) ?_
                  refine xi_iret (v := (-4)) dX9_place_108 rfl ?_
                  simp only [st_place, ec0, ec1] at h
                  rw [if_neg e28, if_neg (fun q => q.elim (fun z => h60 z) (fun y => y.elim (fun z => h73 z) (fun z => by first | omega | (have z2 := z.2; rw [eo85] at z2; cases z2)))), if_pos (by omega)] at h
                  exact h M hC
              · subst h88
                refine xi_bipush (v := (-3)) dX9_place_91 (by decide) ?_
                refine xi_iret (v := (-3)) dX9_place_93 rfl ?_
                simp only [st_place, ec0, ec1] at h
                rw [if_neg e28, if_pos (by first | exact Or.inl h60 | exact Or.inr (Or.inl h73) | exact Or.inr (Or.inr ⟨by omega, by rw [eo85]; rfl⟩))] at h
                exact h M hC
  · have e28 := of_decide_eq_true h28
    refine xi_bipush (v := (-2)) dX9_place_31 (by decide) ?_
    refine xi_iret (v := (-2)) dX9_place_33 rfl ?_
    simp only [st_place, ec0, ec1] at h
    rw [if_pos e28] at h
    exact h M hC

set_option maxHeartbeats 4000000 in
set_option maxRecDepth 100000 in
theorem cl_replay {X : xX} {M : xM} {Q : Option Value → xM → Prop} (hX : wX X) (hC : RepC X M) (x0 : Int32) (h : ∀ M2, RepC X M2 → Q (some (.int (a_replay X x0))) M2) : WP shC mX9_replay 0 [some (.ref 0), some (.int x0)] [] M Q := by
  obtain ⟨G, S0, now, late, risk, A, L, sq, nl, rf, hr, lg, w, tp⟩ := X
  obtain ⟨hW, hw0, wn, wl, wr, wA_, wsq, wnl, wmo, wtk, wwt, wtp, wO0, wB0⟩ := id hX
  obtain ⟨b1, b2, b3, b4, b5, b6, b7, b8, b9, wmap, wlink, wk0, wk1, b10, b11, wword⟩ := id hW
  have nb : nl ≤ 2000 := by rw [wnl]; exact mcnt_le 2000
  obtain ⟨hG, hKF, hKR, hL, hKE, hKS, hKW, hKT, hKM⟩ := id hC
  obtain ⟨hno, hla, hri, hnl, hrf, hhr⟩ := id hKM
  have hSn : CS G (Zf G A S0 now) M (61 + 10 * (now % 16)) := hKR.1 now (by omega) (by omega)
  have hwn : wS G (Zf G A S0 now) := wS_Zf hW hw0 now
  rcases xix_cases x0 (n := now + 1) (by omega) with ⟨ec0, hc0⟩ | ⟨k0, hk0, rfl, ec0⟩
  · skip
    refine xi_iload_n dX9_replay_0 rfl ?_
    refine xi_if_lt 12 dX9_replay_1 (by decide) (fun h1 => ?_) (fun h1 => ?_)
    · skip
      refine xi_iconst (v := (-1)) dX9_replay_12 rfl ?_
      refine xi_iret (v := (-1)) dX9_replay_13 rfl ?_
      have e : a_replay (G, S0, now, late, risk, A, L, sq, nl, rf, hr, lg, w, tp) x0 = -1 := by simp only [a_replay, ec0]
      rw [e] at h
      exact h M hC
    · skip
      refine xi_iload_n dX9_replay_4 rfl ?_
      refine xi_aload_n dX9_replay_5 rfl ?_
      refine xe_getI (v := nI now) dX9_replay_6 fgX9_98 cc0 rfl hno ?_
      refine xi_icmp_le 14 dX9_replay_9 (by decide) (fun z => (at_rg (r := now) (by omega) hc0 rfl).elim (fun q => absurd q h1) (fun q => absurd q (Int32.not_lt.mpr z))) (fun h9 => ?_)
      refine xi_iconst (v := (-1)) dX9_replay_12 rfl ?_
      refine xi_iret (v := (-1)) dX9_replay_13 rfl ?_
      have e : a_replay (G, S0, now, late, risk, A, L, sq, nl, rf, hr, lg, w, tp) x0 = -1 := by simp only [a_replay, ec0]
      rw [e] at h
      exact h M hC
  refine xi_iload_n dX9_replay_0 rfl ?_
  refine xn_if_lt k0 12 dX9_replay_1 (by decide) rfl (by omega) ?_
  refine xi_iload_n dX9_replay_4 rfl ?_
  refine xi_aload_n dX9_replay_5 rfl ?_
  refine xe_getI (v := nI now) dX9_replay_6 fgX9_98 cc0 rfl hno ?_
  refine xn_icmp_le k0 now 14 dX9_replay_9 (by decide) rfl rfl (by omega) (by omega) (fun h9 => ?_) (fun z => absurd z (by omega))
  refine xi_aload_n dX9_replay_14 rfl ?_
  refine xi_getR dX9_replay_15 fgX9_34 cc0 rfl ?_
  refine xi_aload_n dX9_replay_18 rfl ?_
  refine xi_getR dX9_replay_19 fgX9_21 cc0 rfl ?_
  refine xi_callV [.ref 231] [] dX9_replay_22 zX5_restart mlX9_83 cc11 rfl rfl rfl rfl rfl (Nat.le_of_ble_eq_true rfl) (Nat.le_of_ble_eq_true rfl) ⟨by decide, by decide⟩ ?_
  refine s_rs11 hW isSt_first hKF.1 (fun M1 F1 S1 => ?_)
  have g1 : CG G M1 := hG.sm (sC2.fr F1 (by omega))
  have l1 : CLg A (Hx G A S0 now) L M1 := hL.sm (sC2.fr F1 (by omega))
  show WP _ _ 25 _ [] _ _
  refine xi_aload_n dX9_replay_25 rfl ?_
  refine xi_getR dX9_replay_26 fgX9_34 cc0 rfl ?_
  refine xi_iconst (v := 0) dX9_replay_29 rfl ?_
  refine xi_iload_n dX9_replay_30 rfl ?_
  refine xi_aload_n dX9_replay_31 rfl ?_
  refine xi_getR dX9_replay_32 fgX9_40 cc0 rfl ?_
  refine xi_callV [.int 0, .int (nI k0), .ref 13] [] dX9_replay_35 zX5_work mlX9_193 cc11 rfl rfl rfl rfl rfl (Nat.le_of_ble_eq_true rfl) (Nat.le_of_ble_eq_true rfl) ⟨by decide, by decide⟩ ?_
  refine s_work11 (Z := Zf G A S0) hW (fr := 0) (to := k0) (by omega) (by omega) g1 S1 hw0 l1 (fun s _ _ => rfl) (fun M2 F2 S2 l2 w2 => ?_)
  rw [Nat.sub_zero, Hx_all hW (by omega)] at l2
  have fr : ∀ lo hi, 230 < lo ∨ hi < 222 → (hi < 15 ∨ 15 < lo) → sC2 lo hi M M2 := fun lo hi q1 q2 => (sC2.fr F1 (by omega)).tr (sC2.fk F2 (by omega) q2)
  have g2 : CG G M2 := hG.sm (fr _ _ (by omega) (by omega))
  show WP _ _ 38 _ [] _ _
  refine xi_aload_n dX9_replay_38 rfl ?_
  refine xi_getR dX9_replay_39 fgX9_34 cc0 rfl ?_
  refine xi_iload_n dX9_replay_42 rfl ?_
  refine xi_callV [.int (nI k0)] [] dX9_replay_43 zX5_stateAt mlX9_215 cc11 rfl rfl rfl rfl rfl (Nat.le_of_ble_eq_true rfl) (Nat.le_of_ble_eq_true rfl) ⟨by decide, by decide⟩ ?_
  refine g_at11 (t := k0) (by omega) ?_
  show WP _ _ 46 _ [.ref 221] _ _
  refine xi_callV [] [] dX9_replay_46 zX6_sumUp mlX9_314 (so isSt_lone) rfl rfl rfl rfl rfl (Nat.le_of_ble_eq_true rfl) (Nat.le_of_ble_eq_true rfl) ⟨by decide, by decide⟩ ?_
  refine s_dig hW g2 isSt_lone S2 w2 ?_
  show WP _ _ 49 _ [.int (mdig G (Zf G A S0 k0))] _ _
  refine xi_iret (v := (mdig G (Zf G A S0 k0))) dX9_replay_49 rfl ?_
  simp only [a_replay, ec0] at h
  exact h M2 (RepC_mk g2 (hKF.sm (fr _ _ (by omega) (by omega))) (hKR.sm (fr _ _ (by omega) (by omega))) l2 (hKE.sm (fr _ _ (by omega) (by omega))) (hKS.sm (fr _ _ (by omega) (by omega))) (hKW.sm (fr _ _ (by omega) (by omega))) (hKT.sm (fr _ _ (by omega) (by omega))) (hKM.sm (fr _ _ (by omega) (by omega))))

set_option maxHeartbeats 4000000 in
set_option maxRecDepth 100000 in
theorem s_work0 {M : xM} {Q : Option Value → xM → Prop} {fr to : Nat} (h1 : to ≤ fr) (h2 : fr < 2 ^ 31) (h : Q none M) : WP shC mX5_work 0 [some (.ref 9), some (.int (nI fr)), some (.int (nI to)), some (.ref 13), none, none] [] M Q := by
  refine xi_iload_n dX5_work_0 rfl ?_
  refine xi_istore (lv' := [some (.ref 9), some (.int (nI fr)), some (.int (nI to)), some (.ref 13), some (.int (nI fr)), none]) dX5_work_1 (by decide) rfl ?_
  refine xi_iload dX5_work_3 rfl ?_
  refine xi_iload_n dX5_work_5 rfl ?_
  refine xn_icmp_ge fr to 54 dX5_work_6 (by decide) rfl rfl (by omega) (by omega) (fun h6 => ?_) (fun z => absurd z (by omega))
  refine xi_vret dX5_work_54 rfl ?_
  exact h

set_option maxHeartbeats 4000000 in
set_option maxRecDepth 100000 in
theorem cl_fallS {G : xG} {S0 : xS} {now late risk : Nat} {A : Nat → Nat} {L : Nat → Bool} {sq : Nat → Nat} {nl : Nat} {rf hr : Int32} {lg : xE2} {w : xw} {tp : Nat → xT} {M : xM} {Q : Option Value → xM → Prop} (hX : wX (G, S0, now, late, risk, A, L, sq, nl, rf, hr, lg, w, tp)) (hC : RepC (G, S0, now, late, risk, A, L, sq, nl, rf, hr, lg, w, tp) M) (e0 : 0 < now) (h : ∀ M2, RepC (G, S0, now, late, risk, A, L, sq, nl, rf, hr, lg, w, tp) M2 → Q (some (.int 1)) M2) : WP shC mX9_fall 0 [some (.ref 0), none] [] M Q := by
  obtain ⟨hW, hw0, wn, wl, wr, wA_, wsq, wnl, wmo, wtk, wwt, wtp, wO0, wB0⟩ := id hX
  obtain ⟨b1, b2, b3, b4, b5, b6, b7, b8, b9, wmap, wlink, wk0, wk1, b10, b11, wword⟩ := id hW
  have nb : nl ≤ 2000 := by rw [wnl]; exact mcnt_le 2000
  obtain ⟨hG, hKF, hKR, hL, hKE, hKS, hKW, hKT, hKM⟩ := id hC
  obtain ⟨hno, hla, hri, hnl, hrf, hhr⟩ := id hKM
  have hSn : CS G (Zf G A S0 now) M (61 + 10 * (now % 16)) := hKR.1 now (by omega) (by omega)
  have hwn : wS G (Zf G A S0 now) := wS_Zf hW hw0 now
  refine xi_aload_n dX9_fall_0 rfl ?_
  refine xi_getR dX9_fall_1 fgX9_30 cc0 rfl ?_
  refine xi_aload_n dX9_fall_4 rfl ?_
  refine xe_getI (v := nI now) dX9_fall_5 fgX9_98 cc0 rfl hno ?_
  refine xi_callV [.int (nI now)] [] dX9_fall_8 zX5_stateAt mlX9_215 cc9 rfl rfl rfl rfl rfl (Nat.le_of_ble_eq_true rfl) (Nat.le_of_ble_eq_true rfl) ⟨by decide, by decide⟩ ?_
  refine g_at9 (t := now) (by omega) ?_
  show WP _ _ 11 _ [.ref (61 + 10 * (now % 16))] _ _
  refine xi_callV [] [] dX9_fall_11 zX6_sumUp mlX9_314 (so (isSt_ring now)) rfl rfl rfl rfl rfl (Nat.le_of_ble_eq_true rfl) (Nat.le_of_ble_eq_true rfl) ⟨by decide, by decide⟩ ?_
  refine s_dig hW hG (isSt_ring now) hSn hwn ?_
  show WP _ _ 14 _ [.int (mdig G (Zf G A S0 now))] _ _
  refine xi_istore_n (lv' := [some (.ref 0), some (.int (mdig G (Zf G A S0 now)))]) dX9_fall_14 (by decide) rfl ?_
  refine xi_aload_n dX9_fall_15 rfl ?_
  refine xi_getR dX9_fall_16 fgX9_30 cc0 rfl ?_
  refine xi_aload_n dX9_fall_19 rfl ?_
  refine xi_getR dX9_fall_20 fgX9_21 cc0 rfl ?_
  refine xi_callV [.ref 231] [] dX9_fall_23 zX5_restart mlX9_83 cc9 rfl rfl rfl rfl rfl (Nat.le_of_ble_eq_true rfl) (Nat.le_of_ble_eq_true rfl) ⟨by decide, by decide⟩ ?_
  refine s_rs9C isSt_first (fun M1 C1 => ?_)
  have F1 := C1.1
  have S1 : CS G S0 M1 61 := C1.cs hW hKF.1
  have g1 : CG G M1 := hG.sm (sC2.fr F1 (by omega))
  have l1 : CLg A (Hx G A S0 now) L M1 := hL.sm (sC2.fr F1 (by omega))
  show WP _ _ 26 _ [] _ _
  refine xi_aload_n dX9_fall_26 rfl ?_
  refine xi_getR dX9_fall_27 fgX9_30 cc0 rfl ?_
  refine xi_iconst (v := 0) dX9_fall_30 rfl ?_
  refine xi_aload_n dX9_fall_31 rfl ?_
  refine xe_getI (v := nI now) dX9_fall_32 fgX9_98 cc0 rfl (by rw [F1.1]; exact hno) ?_
  refine xi_aload_n dX9_fall_35 rfl ?_
  refine xi_getR dX9_fall_36 fgX9_40 cc0 rfl ?_
  refine xi_callV [.int 0, .int (nI now), .ref 13] [] dX9_fall_39 zX5_work mlX9_193 cc9 rfl rfl rfl rfl rfl (Nat.le_of_ble_eq_true rfl) (Nat.le_of_ble_eq_true rfl) ⟨by decide, by decide⟩ ?_
  have r1 : CR G (Zf G A S0) M1 (max 0 (0 - 15)) 0 := fun t q1 q2 => by obtain rfl : t = 0 := (by omega); exact S1
  refine s_work9 (Z := Zf G A S0) hW (lo := 0) (fr := 0) (to := now) (by omega) (by omega) (by omega) g1 r1 hw0 l1 (fun s _ _ => rfl) (fun M2 F2 R2 l2 w2 => ?_)
  rw [Nat.sub_zero, Hx_all hW (Nat.le_refl _)] at l2
  rw [Nat.zero_max] at R2
  have fr : ∀ lo hi, 220 < lo ∨ hi < 62 → (hi < 15 ∨ 15 < lo) → sC2 lo hi M M2 := fun lo hi q1 q2 => (sC2.fr F1 (by omega)).tr (sC2.fk F2 (by omega) q2)
  have g2 : CG G M2 := hG.sm (fr _ _ (by omega) (by omega))
  show WP _ _ 42 _ [] _ _
  refine xi_aload_n dX9_fall_42 rfl ?_
  refine xi_getR dX9_fall_43 fgX9_30 cc0 rfl ?_
  refine xi_aload_n dX9_fall_46 rfl ?_
  refine xe_getI (v := nI now) dX9_fall_47 fgX9_98 cc0 rfl (by rw [F2.1, F1.1]; exact hno) ?_
  refine xi_callV [.int (nI now)] [] dX9_fall_50 zX5_stateAt mlX9_215 cc9 rfl rfl rfl rfl rfl (Nat.le_of_ble_eq_true rfl) (Nat.le_of_ble_eq_true rfl) ⟨by decide, by decide⟩ ?_
  refine g_at9 (t := now) (by omega) ?_
  show WP _ _ 53 _ [.ref (61 + 10 * (now % 16))] _ _
  refine xi_callV [] [] dX9_fall_53 zX6_sumUp mlX9_314 (so (isSt_ring now)) rfl rfl rfl rfl rfl (Nat.le_of_ble_eq_true rfl) (Nat.le_of_ble_eq_true rfl) ⟨by decide, by decide⟩ ?_
  refine s_dig hW g2 (isSt_ring now) (R2 now (by omega) (by omega)) w2 ?_
  show WP _ _ 56 _ [.int (mdig G (Zf G A S0 now))] _ _
  refine xi_iload_n dX9_fall_56 rfl ?_
  refine xi_icmp_ne 64 dX9_fall_57 (by decide) (fun h57 => ?_) (fun h57 => ?_)
  · exact absurd rfl h57
  · skip
    refine xi_iconst (v := 1) dX9_fall_60 rfl ?_
    refine xi_goto 65 dX9_fall_61 (by decide) ?_
    refine xi_iret (v := 1) dX9_fall_65 rfl ?_
    exact h M2 (RepC_mk g2 (hKF.sm (fr _ _ (by omega) (by omega))) ⟨R2, fun e => by omega⟩ l2 (hKE.sm (fr _ _ (by omega) (by omega))) (hKS.sm (fr _ _ (by omega) (by omega))) (hKW.sm (fr _ _ (by omega) (by omega))) (hKT.sm (fr _ _ (by omega) (by omega))) (hKM.sm (fr _ _ (by omega) (by omega))))

set_option maxHeartbeats 4000000 in
set_option maxRecDepth 100000 in
theorem cl_fall0 {G : xG} {S0 : xS} {now late risk : Nat} {A : Nat → Nat} {L : Nat → Bool} {sq : Nat → Nat} {nl : Nat} {rf hr : Int32} {lg : xE2} {w : xw} {tp : Nat → xT} {M : xM} {Q : Option Value → xM → Prop} (hX : wX (G, S0, now, late, risk, A, L, sq, nl, rf, hr, lg, w, tp)) (hC : RepC (G, S0, now, late, risk, A, L, sq, nl, rf, hr, lg, w, tp) M) (e0 : now = 0) (h : ∀ M2, RepC (G, S0, now, late, risk, A, L, sq, nl, rf, hr, lg, w, tp) M2 → Q (some (.int 1)) M2) : WP shC mX9_fall 0 [some (.ref 0), none] [] M Q := by
  obtain ⟨hW, hw0, wn, wl, wr, wA_, wsq, wnl, wmo, wtk, wwt, wtp, wO0, wB0⟩ := id hX
  obtain ⟨b1, b2, b3, b4, b5, b6, b7, b8, b9, wmap, wlink, wk0, wk1, b10, b11, wword⟩ := id hW
  have nb : nl ≤ 2000 := by rw [wnl]; exact mcnt_le 2000
  obtain ⟨hG, hKF, hKR, hL, hKE, hKS, hKW, hKT, hKM⟩ := id hC
  obtain ⟨hno, hla, hri, hnl, hrf, hhr⟩ := id hKM
  have hSn : CS G (Zf G A S0 now) M (61 + 10 * (now % 16)) := hKR.1 now (by omega) (by omega)
  have hwn : wS G (Zf G A S0 now) := wS_Zf hW hw0 now
  refine xi_aload_n dX9_fall_0 rfl ?_
  refine xi_getR dX9_fall_1 fgX9_30 cc0 rfl ?_
  refine xi_aload_n dX9_fall_4 rfl ?_
  refine xe_getI (v := nI now) dX9_fall_5 fgX9_98 cc0 rfl hno ?_
  refine xi_callV [.int (nI now)] [] dX9_fall_8 zX5_stateAt mlX9_215 cc9 rfl rfl rfl rfl rfl (Nat.le_of_ble_eq_true rfl) (Nat.le_of_ble_eq_true rfl) ⟨by decide, by decide⟩ ?_
  refine g_at9 (t := now) (by omega) ?_
  show WP _ _ 11 _ [.ref (61 + 10 * (now % 16))] _ _
  refine xi_callV [] [] dX9_fall_11 zX6_sumUp mlX9_314 (so (isSt_ring now)) rfl rfl rfl rfl rfl (Nat.le_of_ble_eq_true rfl) (Nat.le_of_ble_eq_true rfl) ⟨by decide, by decide⟩ ?_
  refine s_dig hW hG (isSt_ring now) hSn hwn ?_
  show WP _ _ 14 _ [.int (mdig G (Zf G A S0 now))] _ _
  refine xi_istore_n (lv' := [some (.ref 0), some (.int (mdig G (Zf G A S0 now)))]) dX9_fall_14 (by decide) rfl ?_
  refine xi_aload_n dX9_fall_15 rfl ?_
  refine xi_getR dX9_fall_16 fgX9_30 cc0 rfl ?_
  refine xi_aload_n dX9_fall_19 rfl ?_
  refine xi_getR dX9_fall_20 fgX9_21 cc0 rfl ?_
  refine xi_callV [.ref 231] [] dX9_fall_23 zX5_restart mlX9_83 cc9 rfl rfl rfl rfl rfl (Nat.le_of_ble_eq_true rfl) (Nat.le_of_ble_eq_true rfl) ⟨by decide, by decide⟩ ?_
  refine s_rs9C isSt_first (fun M1 C1 => ?_)
  have F1 := C1.1
  have S1 : CS G S0 M1 61 := C1.cs hW hKF.1
  have g1 : CG G M1 := hG.sm (sC2.fr F1 (by omega))
  have l1 : CLg A (Hx G A S0 now) L M1 := hL.sm (sC2.fr F1 (by omega))
  show WP _ _ 26 _ [] _ _
  refine xi_aload_n dX9_fall_26 rfl ?_
  refine xi_getR dX9_fall_27 fgX9_30 cc0 rfl ?_
  refine xi_iconst (v := 0) dX9_fall_30 rfl ?_
  refine xi_aload_n dX9_fall_31 rfl ?_
  refine xe_getI (v := nI now) dX9_fall_32 fgX9_98 cc0 rfl (by rw [F1.1]; exact hno) ?_
  refine xi_aload_n dX9_fall_35 rfl ?_
  refine xi_getR dX9_fall_36 fgX9_40 cc0 rfl ?_
  refine xi_callV [.int 0, .int (nI now), .ref 13] [] dX9_fall_39 zX5_work mlX9_193 cc9 rfl rfl rfl rfl rfl (Nat.le_of_ble_eq_true rfl) (Nat.le_of_ble_eq_true rfl) ⟨by decide, by decide⟩ ?_
  refine s_work0 (fr := 0) (to := now) (by omega) (by omega) ?_
  show WP _ _ 42 _ [] _ _
  refine xi_aload_n dX9_fall_42 rfl ?_
  refine xi_getR dX9_fall_43 fgX9_30 cc0 rfl ?_
  refine xi_aload_n dX9_fall_46 rfl ?_
  refine xe_getI (v := nI now) dX9_fall_47 fgX9_98 cc0 rfl (by rw [F1.1]; exact hno) ?_
  refine xi_callV [.int (nI now)] [] dX9_fall_50 zX5_stateAt mlX9_215 cc9 rfl rfl rfl rfl rfl (Nat.le_of_ble_eq_true rfl) (Nat.le_of_ble_eq_true rfl) ⟨by decide, by decide⟩ ?_
  refine g_at9 (t := now) (by omega) ?_
  show WP _ _ 53 _ [.ref (61 + 10 * (now % 16))] _ _
  refine xi_callV [] [] dX9_fall_53 zX6_sumUp mlX9_314 (so (isSt_ring now)) rfl rfl rfl rfl rfl (Nat.le_of_ble_eq_true rfl) (Nat.le_of_ble_eq_true rfl) ⟨by decide, by decide⟩ ?_
  refine s_dig hW g1 (isSt_ring now) (show CS G (Zf G A S0 now) M1 (61 + 10 * (now % 16)) by rw [e0]; exact S1) hwn ?_
  show WP _ _ 56 _ [.int (mdig G (Zf G A S0 now))] _ _
  refine xi_iload_n dX9_fall_56 rfl ?_
  refine xi_icmp_ne 64 dX9_fall_57 (by decide) (fun h57 => ?_) (fun h57 => ?_)
  · exact absurd rfl h57
  · skip
    refine xi_iconst (v := 1) dX9_fall_60 rfl ?_
    refine xi_goto 65 dX9_fall_61 (by decide) ?_
    refine xi_iret (v := 1) dX9_fall_65 rfl ?_
    have fr : ∀ lo hi, 70 < lo ∨ hi < 62 → sC2 lo hi M M1 := fun lo hi q1 => sC2.fr F1 (by omega)
    refine h M1 (RepC_mk g1 (hKF.sm (fr _ _ (by omega))) ⟨fun t q1 q2 => ?_, fun _ n hn => (C1.2.1 9 (by omega) (by omega) n hn).trans (hKF.2.1 n hn)⟩ l1 (hKE.sm (fr _ _ (by omega))) (hKS.sm (fr _ _ (by omega))) (hKW.sm (fr _ _ (by omega))) (hKT.sm (fr _ _ (by omega))) (hKM.sm (fr _ _ (by omega))))
    obtain rfl : t = 0 := by omega
    exact S1

set_option maxHeartbeats 4000000 in
set_option maxRecDepth 100000 in
theorem cl_fall {X : xX} {M : xM} {Q : Option Value → xM → Prop} (hX : wX X) (hC : RepC X M) (h : ∀ M2, RepC X M2 → Q (some (.int 1)) M2) : WP shC mX9_fall 0 [some (.ref 0), none] [] M Q := by
  obtain ⟨G, S0, now, late, risk, A, L, sq, nl, rf, hr, lg, w, tp⟩ := X
  rcases Nat.eq_zero_or_pos now with e | e
  · exact cl_fall0 hX hC e h
  · exact cl_fallS hX hC e h

