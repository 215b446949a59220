theorem xf_a {M : xM} {o k : Nat} {v : Int32} : (xf M o k v).2.1 = M.2.1 := rfl
def FA (n q : Nat) (c : Int32) (M M2 : xM) : Prop := (∀ k, ¬ k = 8 → M2.1 0 k = M.1 0 k) ∧ M2.1 0 8 = nI (n + 1) ∧ M2.2.2 = M.2.2 ∧ (∀ a, ¬ a = 4 → ¬ a = 5 → M2.2.1 a = M.2.1 a) ∧ M2.2.1 4 = upd (M.2.1 4) n (nI q) ∧ M2.2.1 5 (6 * n + 0) = c ∧ M2.2.1 5 (6 * n + 1) = nI (mlife q) ∧ M2.2.1 5 (6 * n + 2) = (if q = 0 then 1 else 0) ∧ M2.2.1 5 (6 * n + 3) = 0 ∧ M2.2.1 5 (6 * n + 4) = xo none ∧ M2.2.1 5 (6 * n + 5) = xo none ∧ ∀ i, (i < 6 * n ∨ 6 * n + 6 ≤ i) → M2.2.1 5 i = M.2.1 5 i
set_option maxHeartbeats 4000000 in
set_option maxRecDepth 100000 in
theorem mo_risk {X : xX} {M : xM} {Q : Option Value → xM → Prop} (hX : wX X) (hC : RepM X M) (x0 : Int32) (h : ∀ M2, RepM (st_risk X x0).2 M2 → Q (some (.int (st_risk X x0).1)) M2) : WP shM mX10_risk 0 [some (.ref 0), some (.int x0), none] [] M Q := by
  obtain ⟨G, S0, now, late, risk, A, L, sq, nl, rf, hr, lg, w, tp⟩ := X
  obtain ⟨hW, hw0, wn, wl, wr, wA_, wsq, wnl, wmo, wtk, wwt, wtp, wO0, wB0⟩ := id hX
  obtain ⟨b1, b2, b3, b4, b5, b6, b7, b8, b9, wmap, wlink, wk0, wk1, b10, b11, wword⟩ := id hW
  have nb : nl ≤ 2000 := by rw [wnl]; exact mcnt_le 2000
  obtain ⟨hG, hNS, hNA, hNL, hNH, hNE, hNQ, hNW, hNT, hNM⟩ := id hC
  obtain ⟨hno, hla, hri, hnl, hrf, hhr⟩ := id hNM
  obtain ⟨s, es⟩ : ∃ s, s = 112 * now := ⟨_, rfl⟩
  have hs : s ≤ 56000 := by omega
  have hS : RM G (Zf G A S0 now) M s := by rw [es]; exact hNS.1 now (Nat.le_refl _)
  have hw : wS G (Zf G A S0 now) := wS_Zf hW hw0 now
  rcases xrg_cases x0 (lo := 0) (hi := 1048576) (by omega) (by omega) with ⟨ec0, hc0⟩ | ⟨k0, hk0, hl0, rfl, ec0⟩
  · skip
    refine xi_iload_n dX10_risk_0 rfl ?_
    refine xi_iconst (v := 0) dX10_risk_1 rfl ?_
    refine xi_ldc (v := 1048576) dX10_risk_2 kcX10_160 ?_
    refine xi_callS [.int x0, .int 0, .int 1048576] [] dX10_risk_4 zX10_in mlX10_137 rfl rfl rfl (Nat.le_of_ble_eq_true rfl) (Nat.le_of_ble_eq_true rfl) ⟨by decide, by decide⟩ ?_
    refine n_inF (l := 0) (r := 1048576) hc0 ?_
    show WP _ _ 7 _ [.int (xb false)] _ _
    refine xb_if_ne false 12 dX10_risk_7 (by decide) rfl (fun z => absurd z (by decide)) (fun _ => ?_)
    refine xi_iconst (v := (-1)) dX10_risk_10 rfl ?_
    refine xi_iret (v := (-1)) dX10_risk_11 rfl ?_
    have e : st_risk (G, S0, now, late, risk, A, L, sq, nl, rf, hr, lg, w, tp) x0 = (-1, (G, S0, now, late, risk, A, L, sq, nl, rf, hr, lg, w, tp)) := by simp only [st_risk, ec0]
    rw [e] at h
    exact h M hC
  refine xi_iload_n dX10_risk_0 rfl ?_
  refine xi_iconst (v := 0) dX10_risk_1 rfl ?_
  refine xi_ldc (v := 1048576) dX10_risk_2 kcX10_160 ?_
  refine xi_callS [.int (nI k0), .int 0, .int 1048576] [] dX10_risk_4 zX10_in mlX10_137 rfl rfl rfl (Nat.le_of_ble_eq_true rfl) (Nat.le_of_ble_eq_true rfl) ⟨by decide, by decide⟩ ?_
  refine n_inT (k := k0) (l := 0) (r := 1048576) (by omega) (by omega) (by omega) ?_
  show WP _ _ 7 _ [.int (xb true)] _ _
  refine xb_if_ne true 12 dX10_risk_7 (by decide) rfl (fun _ => ?_) (fun z => absurd z (by decide))
  refine xi_aload_n dX10_risk_12 rfl ?_
  refine xe_getI (v := nI risk) dX10_risk_13 fgX10_35 mm0 rfl hri ?_
  refine xi_istore_n (lv' := [some (.ref 0), some (.int (nI k0)), some (.int (nI risk))]) dX10_risk_16 (by decide) rfl ?_
  refine xi_aload_n dX10_risk_17 rfl ?_
  refine xi_iload_n dX10_risk_18 rfl ?_
  refine xi_put dX10_risk_19 fpX10_35 mm0 rfl ?_
  refine xi_iload_n dX10_risk_22 rfl ?_
  refine xi_iret (v := nI risk) dX10_risk_23 rfl ?_
  simp only [st_risk, ec0] at h
  exact h _ (RepM_risk hX hC)

set_option maxHeartbeats 4000000 in
set_option maxRecDepth 100000 in
theorem mo_late {X : xX} {M : xM} {Q : Option Value → xM → Prop} (hX : wX X) (hC : RepM X M) (x0 : Int32) (h : ∀ M2, RepM (st_late X x0).2 M2 → Q (some (.int (st_late X x0).1)) M2) : WP shM mX10_late 0 [some (.ref 0), some (.int x0), none] [] M Q := by
  obtain ⟨G, S0, now, late, risk, A, L, sq, nl, rf, hr, lg, w, tp⟩ := X
  obtain ⟨hW, hw0, wn, wl, wr, wA_, wsq, wnl, wmo, wtk, wwt, wtp, wO0, wB0⟩ := id hX
  obtain ⟨b1, b2, b3, b4, b5, b6, b7, b8, b9, wmap, wlink, wk0, wk1, b10, b11, wword⟩ := id hW
  have nb : nl ≤ 2000 := by rw [wnl]; exact mcnt_le 2000
  obtain ⟨hG, hNS, hNA, hNL, hNH, hNE, hNQ, hNW, hNT, hNM⟩ := id hC
  obtain ⟨hno, hla, hri, hnl, hrf, hhr⟩ := id hNM
  obtain ⟨s, es⟩ : ∃ s, s = 112 * now := ⟨_, rfl⟩
  have hs : s ≤ 56000 := by omega
  have hS : RM G (Zf G A S0 now) M s := by rw [es]; exact hNS.1 now (Nat.le_refl _)
  have hw : wS G (Zf G A S0 now) := wS_Zf hW hw0 now
  rcases xrg_cases x0 (lo := 0) (hi := 8) (by omega) (by omega) with ⟨ec0, hc0⟩ | ⟨k0, hk0, hl0, rfl, ec0⟩
  · skip
    refine xi_iload_n dX10_late_0 rfl ?_
    refine xi_iconst (v := 0) dX10_late_1 rfl ?_
    refine xi_bipush (v := 8) dX10_late_2 (by decide) ?_
    refine xi_callS [.int x0, .int 0, .int 8] [] dX10_late_4 zX10_in mlX10_137 rfl rfl rfl (Nat.le_of_ble_eq_true rfl) (Nat.le_of_ble_eq_true rfl) ⟨by decide, by decide⟩ ?_
    refine n_inF (l := 0) (r := 8) hc0 ?_
    show WP _ _ 7 _ [.int (xb false)] _ _
    refine xb_if_ne false 12 dX10_late_7 (by decide) rfl (fun z => absurd z (by decide)) (fun _ => ?_)
    refine xi_iconst (v := (-1)) dX10_late_10 rfl ?_
    refine xi_iret (v := (-1)) dX10_late_11 rfl ?_
    have e : st_late (G, S0, now, late, risk, A, L, sq, nl, rf, hr, lg, w, tp) x0 = (-1, (G, S0, now, late, risk, A, L, sq, nl, rf, hr, lg, w, tp)) := by simp only [st_late, ec0]
    rw [e] at h
    exact h M hC
  refine xi_iload_n dX10_late_0 rfl ?_
  refine xi_iconst (v := 0) dX10_late_1 rfl ?_
  refine xi_bipush (v := 8) dX10_late_2 (by decide) ?_
  refine xi_callS [.int (nI k0), .int 0, .int 8] [] dX10_late_4 zX10_in mlX10_137 rfl rfl rfl (Nat.le_of_ble_eq_true rfl) (Nat.le_of_ble_eq_true rfl) ⟨by decide, by decide⟩ ?_
  refine n_inT (k := k0) (l := 0) (r := 8) (by omega) (by omega) (by omega) ?_
  show WP _ _ 7 _ [.int (xb true)] _ _
  refine xb_if_ne true 12 dX10_late_7 (by decide) rfl (fun _ => ?_) (fun z => absurd z (by decide))
  refine xi_aload_n dX10_late_12 rfl ?_
  refine xi_callV [] [] dX10_late_13 zX10_isStarted mlX10_145 mm0 rfl rfl rfl rfl rfl (Nat.le_of_ble_eq_true rfl) (Nat.le_of_ble_eq_true rfl) ⟨by decide, by decide⟩ ?_
  refine o_started hX hC ?_
  show WP _ _ 16 _ [.int (xb (decide (0 < now ∨ 0 < nl)))] _ _
  refine xb_if_eq (decide (0 < now ∨ 0 < nl)) 22 dX10_late_16 (by decide) rfl (fun h16 => ?_) (fun h16 => ?_)
  · have e16 := of_decide_eq_false h16
    refine xi_aload_n dX10_late_22 rfl ?_
    refine xe_getI (v := nI late) dX10_late_23 fgX10_32 mm0 rfl hla ?_
    refine xi_istore_n (lv' := [some (.ref 0), some (.int (nI k0)), some (.int (nI late))]) dX10_late_26 (by decide) rfl ?_
    refine xi_aload_n dX10_late_27 rfl ?_
    refine xi_iload_n dX10_late_28 rfl ?_
    refine xi_put dX10_late_29 fpX10_32 mm0 rfl ?_
    refine xi_iload_n dX10_late_32 rfl ?_
    refine xi_iret (v := nI late) dX10_late_33 rfl ?_
    simp only [st_late, ec0] at h
    rw [if_neg e16] at h
    exact h _ (RepM_late hC (by omega))
  · have e16 := of_decide_eq_true h16
    refine xi_bipush (v := (-2)) dX10_late_19 (by decide) ?_
    refine xi_iret (v := (-2)) dX10_late_21 rfl ?_
    simp only [st_late, ec0] at h
    rw [if_pos e16] at h
    exact h M hC

set_option maxHeartbeats 4000000 in
set_option maxRecDepth 100000 in
theorem mo_wall {X : xX} {M : xM} {Q : Option Value → xM → Prop} (hX : wX X) (hC : RepM X M) (x0 : Int32) (h : ∀ M2, RepM (st_wall X x0).2 M2 → Q (some (.int (st_wall X x0).1)) M2) : WP shM mX10_wall 0 [some (.ref 0), some (.int x0)] [] M Q := by
  obtain ⟨G, S0, now, late, risk, A, L, sq, nl, rf, hr, lg, w, tp⟩ := X
  obtain ⟨hW, hw0, wn, wl, wr, wA_, wsq, wnl, wmo, wtk, wwt, wtp, wO0, wB0⟩ := id hX
  obtain ⟨b1, b2, b3, b4, b5, b6, b7, b8, b9, wmap, wlink, wk0, wk1, b10, b11, wword⟩ := id hW
  have nb : nl ≤ 2000 := by rw [wnl]; exact mcnt_le 2000
  obtain ⟨hG, hNS, hNA, hNL, hNH, hNE, hNQ, hNW, hNT, hNM⟩ := id hC
  obtain ⟨hno, hla, hri, hnl, hrf, hhr⟩ := id hNM
  obtain ⟨s, es⟩ : ∃ s, s = 112 * now := ⟨_, rfl⟩
  have hs : s ≤ 56000 := by omega
  have hS : RM G (Zf G A S0 now) M s := by rw [es]; exact hNS.1 now (Nat.le_refl _)
  have hw : wS G (Zf G A S0 now) := wS_Zf hW hw0 now
  rcases xix_cases x0 (n := gN G) (by omega) with ⟨ec0, hc0⟩ | ⟨k0, hk0, rfl, ec0⟩
  · skip
    refine xi_aload_n dX10_wall_0 rfl ?_
    refine xi_iload_n dX10_wall_1 rfl ?_
    refine xi_callV [.int x0] [] dX10_wall_2 zX10_isCell mlX10_141 mm0 rfl rfl rfl rfl rfl (Nat.le_of_ble_eq_true rfl) (Nat.le_of_ble_eq_true rfl) ⟨by decide, by decide⟩ ?_
    refine n_isCF hW hG hc0 ?_
    show WP _ _ 5 _ [.int (xb false)] _ _
    refine xb_if_ne false 10 dX10_wall_5 (by decide) rfl (fun z => absurd z (by decide)) (fun _ => ?_)
    refine xi_iconst (v := (-1)) dX10_wall_8 rfl ?_
    refine xi_iret (v := (-1)) dX10_wall_9 rfl ?_
    have e : st_wall (G, S0, now, late, risk, A, L, sq, nl, rf, hr, lg, w, tp) x0 = (-1, (G, S0, now, late, risk, A, L, sq, nl, rf, hr, lg, w, tp)) := by simp only [st_wall, ec0]
    rw [e] at h
    exact h M hC
  refine xi_aload_n dX10_wall_0 rfl ?_
  refine xi_iload_n dX10_wall_1 rfl ?_
  refine xi_callV [.int (nI k0)] [] dX10_wall_2 zX10_isCell mlX10_141 mm0 rfl rfl rfl rfl rfl (Nat.le_of_ble_eq_true rfl) (Nat.le_of_ble_eq_true rfl) ⟨by decide, by decide⟩ ?_
  refine n_isCT hW hG (k := k0) (by omega) ?_
  show WP _ _ 5 _ [.int (xb true)] _ _
  refine xb_if_ne true 10 dX10_wall_5 (by decide) rfl (fun _ => ?_) (fun z => absurd z (by decide))
  refine xi_aload_n dX10_wall_10 rfl ?_
  refine xi_callV [] [] dX10_wall_11 zX10_isStarted mlX10_145 mm0 rfl rfl rfl rfl rfl (Nat.le_of_ble_eq_true rfl) (Nat.le_of_ble_eq_true rfl) ⟨by decide, by decide⟩ ?_
  refine o_started hX hC ?_
  show WP _ _ 14 _ [.int (xb (decide (0 < now ∨ 0 < nl)))] _ _
  refine xb_if_eq (decide (0 < now ∨ 0 < nl)) 20 dX10_wall_14 (by decide) rfl (fun h14 => ?_) (fun h14 => ?_)
  · have e14 := of_decide_eq_false h14
    refine xi_aload_n dX10_wall_20 rfl ?_
    refine xi_getR dX10_wall_21 fgX10_19 mm0 rfl ?_
    refine xi_iload_n dX10_wall_24 rfl ?_
    have q1 := wmap k0 (by omega)
    refine xe_iald (v := nI (gmap G k0)) k0 dX10_wall_25 mm1 (by decide) rfl (by omega) (mg_map hG (by omega)) ?_
    refine xi_iconst (v := 1) dX10_wall_26 rfl ?_
    refine xn_icmp_gt (gmap G k0) 1 38 dX10_wall_27 (by decide) rfl rfl (by omega) (by omega) (fun h27 => ?_) (fun h27 => ?_)
    · skip
      refine xi_bipush (v := (-3)) dX10_wall_38 (by decide) ?_
      refine xi_iret (v := (-3)) dX10_wall_40 rfl ?_
      simp only [st_wall, ec0] at h
      rw [if_neg e14, if_pos (by first | exact Or.inr h35 | (exact Or.inl (by omega)))] at h
      exact h M hC
    · skip
      refine xi_aload_n dX10_wall_30 rfl ?_
      refine xi_iload_n dX10_wall_31 rfl ?_
      refine xi_callV [.int (nI k0)] [] dX10_wall_32 zX10_hasThing mlX10_149 mm0 rfl rfl rfl rfl rfl (Nat.le_of_ble_eq_true rfl) (Nat.le_of_ble_eq_true rfl) ⟨by decide, by decide⟩ ?_
      refine n_hasT hW hG (show RM G S0 M 0 from hNS.1 0 (by omega)) (k := k0) ?_
      show WP _ _ 35 _ [.int (xb (mhas G S0 k0))] _ _
      refine xb_if_eq (mhas G S0 k0) 41 dX10_wall_35 (by decide) rfl (fun h35 => ?_) (fun h35 => ?_)
      · skip
        refine xi_aload_n dX10_wall_41 rfl ?_
        refine xi_getR dX10_wall_42 fgX10_19 mm0 rfl ?_
        refine xi_iload_n dX10_wall_45 rfl ?_
        refine xi_iconst (v := 1) dX10_wall_46 rfl ?_
        refine xi_aload_n dX10_wall_47 rfl ?_
        refine xi_getR dX10_wall_48 fgX10_19 mm0 rfl ?_
        refine xi_iload_n dX10_wall_51 rfl ?_
        have q2 := wmap k0 (by omega)
        refine xe_iald (v := nI (gmap G k0)) k0 dX10_wall_52 mm1 (by decide) rfl (by omega) (mg_map hG (by omega)) ?_
        refine xe_isub dX10_wall_53 (v := nI (1 - gmap G k0)) (pk_sub (a := 1) (b := gmap G k0) (by omega)) ?_
        refine xe_iast k0 dX10_wall_54 mm1 (by decide) rfl (by omega) ?_
        refine xi_aload_n dX10_wall_55 rfl ?_
        refine xat 56 rfl ?_
        refine xi_getR dX10_wall_56 fgX10_19 mm0 rfl ?_
        refine xi_iload_n dX10_wall_59 rfl ?_
        refine xe_iald (v := nI (1 - gmap G k0)) k0 dX10_wall_60 mm1 (by decide) rfl (by omega) (by rw [xa_s, upd_s]) ?_
        refine xi_iret (v := nI (1 - gmap G k0)) dX10_wall_61 rfl ?_
        simp only [st_wall, ec0] at h
        rw [if_neg e14, if_neg (fun q => q.elim (fun z => by omega) (fun z => by rw [h35] at z; cases z))] at h
        exact h _ (RepM_wall hC (by omega) (by omega))
      · skip
        refine xi_bipush (v := (-3)) dX10_wall_38 (by decide) ?_
        refine xi_iret (v := (-3)) dX10_wall_40 rfl ?_
        simp only [st_wall, ec0] at h
        rw [if_neg e14, if_pos (by first | exact Or.inr h35 | (exact Or.inl (by omega)))] at h
        exact h M hC
  · have e14 := of_decide_eq_true h14
    refine xi_bipush (v := (-2)) dX10_wall_17 (by decide) ?_
    refine xi_iret (v := (-2)) dX10_wall_19 rfl ?_
    simp only [st_wall, ec0] at h
    rw [if_pos e14] at h
    exact h M hC

set_option maxHeartbeats 4000000 in
set_option maxRecDepth 100000 in
theorem mo_door {X : xX} {M : xM} {Q : Option Value → xM → Prop} (hX : wX X) (hC : RepM X M) (x0 : Int32) (x1 : Int32) (h : ∀ M2, RepM (st_door X x0 x1).2 M2 → Q (some (.int (st_door X x0 x1).1)) M2) : WP shM mX10_door 0 [some (.ref 0), some (.int x0), some (.int x1)] [] M Q := by
  obtain ⟨G, S0, now, late, risk, A, L, sq, nl, rf, hr, lg, w, tp⟩ := X
  obtain ⟨hW, hw0, wn, wl, wr, wA_, wsq, wnl, wmo, wtk, wwt, wtp, wO0, wB0⟩ := id hX
  obtain ⟨b1, b2, b3, b4, b5, b6, b7, b8, b9, wmap, wlink, wk0, wk1, b10, b11, wword⟩ := id hW
  have nb : nl ≤ 2000 := by rw [wnl]; exact mcnt_le 2000
  obtain ⟨hG, hNS, hNA, hNL, hNH, hNE, hNQ, hNW, hNT, hNM⟩ := id hC
  obtain ⟨hno, hla, hri, hnl, hrf, hhr⟩ := id hNM
  obtain ⟨s, es⟩ : ∃ s, s = 112 * now := ⟨_, rfl⟩
  have hs : s ≤ 56000 := by omega
  have hS : RM G (Zf G A S0 now) M s := by rw [es]; exact hNS.1 now (Nat.le_refl _)
  have hw : wS G (Zf G A S0 now) := wS_Zf hW hw0 now
  have hdD : M.1 0 6 = nI (gD G) := mg_D hG
  rcases xix_cases x0 (n := gN G) (by omega) with ⟨ec0, hc0⟩ | ⟨k0, hk0, rfl, ec0⟩
  · skip
    refine xi_aload_n dX10_door_0 rfl ?_
    refine xi_iload_n dX10_door_1 rfl ?_
    refine xi_callV [.int x0] [] dX10_door_2 zX10_isCell mlX10_141 mm0 rfl rfl rfl rfl rfl (Nat.le_of_ble_eq_true rfl) (Nat.le_of_ble_eq_true rfl) ⟨by decide, by decide⟩ ?_
    refine n_isCF hW hG hc0 ?_
    show WP _ _ 5 _ [.int (xb false)] _ _
    refine xb_if_eq false 18 dX10_door_5 (by decide) rfl (fun _ => ?_) (fun z => absurd z (by decide))
    refine xi_iconst (v := (-1)) dX10_door_18 rfl ?_
    refine xi_iret (v := (-1)) dX10_door_19 rfl ?_
    have e : st_door (G, S0, now, late, risk, A, L, sq, nl, rf, hr, lg, w, tp) x0 x1 = (-1, (G, S0, now, late, risk, A, L, sq, nl, rf, hr, lg, w, tp)) := by simp only [st_door, ec0]
    rw [e] at h
    exact h M hC
  rcases xix_cases x1 (n := 16) (by omega) with ⟨ec1, hc1⟩ | ⟨k1, hk1, rfl, ec1⟩
  · skip
    refine xi_aload_n dX10_door_0 rfl ?_
    refine xi_iload_n dX10_door_1 rfl ?_
    refine xi_callV [.int (nI k0)] [] dX10_door_2 zX10_isCell mlX10_141 mm0 rfl rfl rfl rfl rfl (Nat.le_of_ble_eq_true rfl) (Nat.le_of_ble_eq_true rfl) ⟨by decide, by decide⟩ ?_
    refine n_isCT hW hG (k := k0) (by omega) ?_
    show WP _ _ 5 _ [.int (xb true)] _ _
    refine xb_if_eq true 18 dX10_door_5 (by decide) rfl (fun z => absurd z (by decide)) (fun _ => ?_)
    refine xi_iload_n dX10_door_8 rfl ?_
    refine xi_iconst (v := 0) dX10_door_9 rfl ?_
    refine xi_bipush (v := 15) dX10_door_10 (by decide) ?_
    refine xi_callS [.int x1, .int 0, .int 15] [] dX10_door_12 zX10_in mlX10_137 rfl rfl rfl (Nat.le_of_ble_eq_true rfl) (Nat.le_of_ble_eq_true rfl) ⟨by decide, by decide⟩ ?_
    refine n_inF (l := 0) (r := 15) (at_rg (by omega) hc1 (by omega)) ?_
    show WP _ _ 15 _ [.int (xb false)] _ _
    refine xb_if_ne false 20 dX10_door_15 (by decide) rfl (fun z => absurd z (by decide)) (fun _ => ?_)
    refine xi_iconst (v := (-1)) dX10_door_18 rfl ?_
    refine xi_iret (v := (-1)) dX10_door_19 rfl ?_
    have e : st_door (G, S0, now, late, risk, A, L, sq, nl, rf, hr, lg, w, tp) (nI k0) x1 = (-1, (G, S0, now, late, risk, A, L, sq, nl, rf, hr, lg, w, tp)) := by simp only [st_door, ec0, ec1]
    rw [e] at h
    exact h M hC
  refine xi_aload_n dX10_door_0 rfl ?_
  refine xi_iload_n dX10_door_1 rfl ?_
  refine xi_callV [.int (nI k0)] [] dX10_door_2 zX10_isCell mlX10_141 mm0 rfl rfl rfl rfl rfl (Nat.le_of_ble_eq_true rfl) (Nat.le_of_ble_eq_true rfl) ⟨by decide, by decide⟩ ?_
  refine n_isCT hW hG (k := k0) (by omega) ?_
  show WP _ _ 5 _ [.int (xb true)] _ _
  refine xb_if_eq true 18 dX10_door_5 (by decide) rfl (fun z => absurd z (by decide)) (fun _ => ?_)
  refine xi_iload_n dX10_door_8 rfl ?_
  refine xi_iconst (v := 0) dX10_door_9 rfl ?_
  refine xi_bipush (v := 15) dX10_door_10 (by decide) ?_
  refine xi_callS [.int (nI k1), .int 0, .int 15] [] dX10_door_12 zX10_in mlX10_137 rfl rfl rfl (Nat.le_of_ble_eq_true rfl) (Nat.le_of_ble_eq_true rfl) ⟨by decide, by decide⟩ ?_
  refine n_inT (k := k1) (l := 0) (r := 15) (by omega) (by omega) (by omega) ?_
  show WP _ _ 15 _ [.int (xb true)] _ _
  refine xb_if_ne true 20 dX10_door_15 (by decide) rfl (fun _ => ?_) (fun z => absurd z (by decide))
  refine xi_aload_n dX10_door_20 rfl ?_
  refine xi_callV [] [] dX10_door_21 zX10_isStarted mlX10_145 mm0 rfl rfl rfl rfl rfl (Nat.le_of_ble_eq_true rfl) (Nat.le_of_ble_eq_true rfl) ⟨by decide, by decide⟩ ?_
  refine o_started hX hC ?_
  show WP _ _ 24 _ [.int (xb (decide (0 < now ∨ 0 < nl)))] _ _
  refine xb_if_eq (decide (0 < now ∨ 0 < nl)) 30 dX10_door_24 (by decide) rfl (fun h24 => ?_) (fun h24 => ?_)
  · have e24 := of_decide_eq_false h24
    refine xi_aload_n dX10_door_30 rfl ?_
    refine xi_getR dX10_door_31 fgX10_19 mm0 rfl ?_
    refine xi_iload_n dX10_door_34 rfl ?_
    have q1 := wmap k0 (by omega)
    refine xe_iald (v := nI (gmap G k0)) k0 dX10_door_35 mm1 (by decide) rfl (by omega) (mg_map hG (by omega)) ?_
    refine xn_if_ne (gmap G k0) 47 dX10_door_36 (by decide) rfl (by omega) (fun h36 => ?_) (fun h36 => ?_)
    · skip
      refine xi_bipush (v := (-3)) dX10_door_47 (by decide) ?_
      refine xi_iret (v := (-3)) dX10_door_49 rfl ?_
      simp only [st_door, ec0, ec1] at h
      rw [if_neg e24, if_pos (by first | exact Or.inr h44 | (exact Or.inl (by omega)))] at h
      exact h M hC
    · skip
      refine xi_aload_n dX10_door_39 rfl ?_
      refine xi_iload_n dX10_door_40 rfl ?_
      refine xi_callV [.int (nI k0)] [] dX10_door_41 zX10_hasThing mlX10_149 mm0 rfl rfl rfl rfl rfl (Nat.le_of_ble_eq_true rfl) (Nat.le_of_ble_eq_true rfl) ⟨by decide, by decide⟩ ?_
      refine n_hasT hW hG (show RM G S0 M 0 from hNS.1 0 (by omega)) (k := k0) ?_
      show WP _ _ 44 _ [.int (xb (mhas G S0 k0))] _ _
      refine xb_if_eq (mhas G S0 k0) 50 dX10_door_44 (by decide) rfl (fun h44 => ?_) (fun h44 => ?_)
      · skip
        refine xi_aload_n dX10_door_50 rfl ?_
        refine xe_getI (v := nI (gD G)) dX10_door_51 fgX10_104 mm0 rfl hdD ?_
        refine xi_bipush (v := 8) dX10_door_54 (by decide) ?_
        refine xn_icmp_ne (gD G) 8 62 dX10_door_56 (by decide) rfl rfl (by omega) (by omega) (fun h56 => ?_) (fun h56 => ?_)
        · skip
          refine xi_aload_n dX10_door_62 rfl ?_
          refine xi_getR dX10_door_63 fgX10_19 mm0 rfl ?_
          refine xi_iload_n dX10_door_66 rfl ?_
          refine xi_iconst (v := 2) dX10_door_67 rfl ?_
          refine xe_iast k0 dX10_door_68 mm1 (by decide) rfl (by omega) ?_
          refine xi_aload_n dX10_door_69 rfl ?_
          refine xi_getR dX10_door_70 fgX10_23 mm0 rfl ?_
          refine xi_iload_n dX10_door_73 rfl ?_
          refine xi_aload_n dX10_door_74 rfl ?_
          refine xe_getI (v := nI (gD G)) dX10_door_75 fgX10_104 mm0 rfl hdD ?_
          refine xe_iast k0 dX10_door_78 mm2 (by decide) rfl (by omega) ?_
          refine xat 79 rfl ?_
          refine xi_aload_n dX10_door_79 rfl ?_
          refine xi_getR dX10_door_80 fgX10_26 mm0 rfl ?_
          refine xi_aload_n dX10_door_83 rfl ?_
          refine xe_getI (v := nI (gD G)) dX10_door_84 fgX10_104 mm0 rfl hdD ?_
          refine xi_iload_n dX10_door_87 rfl ?_
          refine xe_iast (gD G) dX10_door_88 mm3 (by decide) rfl (by omega) ?_
          refine xi_aload_n dX10_door_89 rfl ?_
          refine xi_dup dX10_door_90 rfl ?_
          refine xe_getI (v := nI (gD G)) dX10_door_91 fgX10_104 mm0 rfl hdD ?_
          refine xi_iconst (v := 1) dX10_door_94 rfl ?_
          refine xe_iadd dX10_door_95 (v := nI (gD G + 1)) (nI_add (gD G) 1) ?_
          refine xi_put dX10_door_96 fpX10_104 mm0 rfl ?_
          refine xat 99 rfl ?_
          refine xi_aload_n dX10_door_99 rfl ?_
          refine xe_getI (v := nI (gD G + 1)) dX10_door_100 fgX10_104 mm0 rfl rfl ?_
          refine xi_iconst (v := 1) dX10_door_103 rfl ?_
          refine xe_isub dX10_door_104 (v := nI (gD G)) (pk_sub (a := gD G + 1) (b := 1) (by omega)) ?_
          refine xi_iret (v := nI (gD G)) dX10_door_105 rfl ?_
          simp only [st_door, ec0, ec1] at h
          rw [if_neg e24, if_neg (fun q => q.elim (fun z => by omega) (fun z => by rw [h44] at z; cases z)), if_neg (by omega)] at h
          exact h _ (RepM_door hC (by omega) (by omega) wO0)
        · skip
          refine xi_bipush (v := (-4)) dX10_door_59 (by decide) ?_
          refine xi_iret (v := (-4)) dX10_door_61 rfl ?_
          simp only [st_door, ec0, ec1] at h
          rw [if_neg e24, if_neg (fun q => q.elim (fun z => by omega) (fun z => by rw [h44] at z; cases z)), if_pos (by omega)] at h
          exact h M hC
      · skip
        refine xi_bipush (v := (-3)) dX10_door_47 (by decide) ?_
        refine xi_iret (v := (-3)) dX10_door_49 rfl ?_
        simp only [st_door, ec0, ec1] at h
        rw [if_neg e24, if_pos (by first | exact Or.inr h44 | (exact Or.inl (by omega)))] at h
        exact h M hC
  · have e24 := of_decide_eq_true h24
    refine xi_bipush (v := (-2)) dX10_door_27 (by decide) ?_
    refine xi_iret (v := (-2)) dX10_door_29 rfl ?_
    simp only [st_door, ec0, ec1] at h
    rw [if_pos e24] at h
    exact h M hC

set_option maxHeartbeats 4000000 in
set_option maxRecDepth 100000 in
theorem mo_plate {X : xX} {M : xM} {Q : Option Value → xM → Prop} (hX : wX X) (hC : RepM X M) (x0 : Int32) (x1 : Int32) (h : ∀ M2, RepM (st_plate X x0 x1).2 M2 → Q (some (.int (st_plate X x0 x1).1)) M2) : WP shM mX10_plate 0 [some (.ref 0), some (.int x0), some (.int x1)] [] M Q := by
  obtain ⟨G, S0, now, late, risk, A, L, sq, nl, rf, hr, lg, w, tp⟩ := X
  obtain ⟨hW, hw0, wn, wl, wr, wA_, wsq, wnl, wmo, wtk, wwt, wtp, wO0, wB0⟩ := id hX
  obtain ⟨b1, b2, b3, b4, b5, b6, b7, b8, b9, wmap, wlink, wk0, wk1, b10, b11, wword⟩ := id hW
  have nb : nl ≤ 2000 := by rw [wnl]; exact mcnt_le 2000
  obtain ⟨hG, hNS, hNA, hNL, hNH, hNE, hNQ, hNW, hNT, hNM⟩ := id hC
  obtain ⟨hno, hla, hri, hnl, hrf, hhr⟩ := id hNM
  obtain ⟨s, es⟩ : ∃ s, s = 112 * now := ⟨_, rfl⟩
  have hs : s ≤ 56000 := by omega
  have hS : RM G (Zf G A S0 now) M s := by rw [es]; exact hNS.1 now (Nat.le_refl _)
  have hw : wS G (Zf G A S0 now) := wS_Zf hW hw0 now
  rcases xix_cases x0 (n := gN G) (by omega) with ⟨ec0, hc0⟩ | ⟨k0, hk0, rfl, ec0⟩
  · skip
    refine xi_aload_n dX10_plate_0 rfl ?_
    refine xi_iload_n dX10_plate_1 rfl ?_
    refine xi_callV [.int x0] [] dX10_plate_2 zX10_isCell mlX10_141 mm0 rfl rfl rfl rfl rfl (Nat.le_of_ble_eq_true rfl) (Nat.le_of_ble_eq_true rfl) ⟨by decide, by decide⟩ ?_
    refine n_isCF hW hG hc0 ?_
    show WP _ _ 5 _ [.int (xb false)] _ _
    refine xb_if_eq false 22 dX10_plate_5 (by decide) rfl (fun _ => ?_) (fun z => absurd z (by decide))
    refine xi_iconst (v := (-1)) dX10_plate_22 rfl ?_
    refine xi_iret (v := (-1)) dX10_plate_23 rfl ?_
    have e : st_plate (G, S0, now, late, risk, A, L, sq, nl, rf, hr, lg, w, tp) x0 x1 = (-1, (G, S0, now, late, risk, A, L, sq, nl, rf, hr, lg, w, tp)) := by simp only [st_plate, ec0]
    rw [e] at h
    exact h M hC
  rcases xix_cases x1 (n := gD G) (by omega) with ⟨ec1, hc1⟩ | ⟨k1, hk1, rfl, ec1⟩
  · skip
    refine xi_aload_n dX10_plate_0 rfl ?_
    refine xi_iload_n dX10_plate_1 rfl ?_
    refine xi_callV [.int (nI k0)] [] dX10_plate_2 zX10_isCell mlX10_141 mm0 rfl rfl rfl rfl rfl (Nat.le_of_ble_eq_true rfl) (Nat.le_of_ble_eq_true rfl) ⟨by decide, by decide⟩ ?_
    refine n_isCT hW hG (k := k0) (by omega) ?_
    show WP _ _ 5 _ [.int (xb true)] _ _
    refine xb_if_eq true 22 dX10_plate_5 (by decide) rfl (fun z => absurd z (by decide)) (fun _ => ?_)
    refine xi_iload_n dX10_plate_8 rfl ?_
    refine xi_iconst (v := 0) dX10_plate_9 rfl ?_
    refine xi_aload_n dX10_plate_10 rfl ?_
    refine xe_getI (v := nI (gD G)) dX10_plate_11 fgX10_104 mm0 rfl (mg_D hG) ?_
    refine xi_iconst (v := 1) dX10_plate_14 rfl ?_
    refine xi_isub dX10_plate_15 ?_
    refine xi_callS [.int x1, .int 0, .int (nI (gD G) - 1)] [] dX10_plate_16 zX10_in mlX10_137 rfl rfl rfl (Nat.le_of_ble_eq_true rfl) (Nat.le_of_ble_eq_true rfl) ⟨by decide, by decide⟩ ?_
    refine n_in1F (n := (gD G)) (by omega) hc1 ?_
    show WP _ _ 19 _ [.int (xb false)] _ _
    refine xb_if_ne false 24 dX10_plate_19 (by decide) rfl (fun z => absurd z (by decide)) (fun _ => ?_)
    refine xi_iconst (v := (-1)) dX10_plate_22 rfl ?_
    refine xi_iret (v := (-1)) dX10_plate_23 rfl ?_
    have e : st_plate (G, S0, now, late, risk, A, L, sq, nl, rf, hr, lg, w, tp) (nI k0) x1 = (-1, (G, S0, now, late, risk, A, L, sq, nl, rf, hr, lg, w, tp)) := by simp only [st_plate, ec0, ec1]
    rw [e] at h
    exact h M hC
  refine xi_aload_n dX10_plate_0 rfl ?_
  refine xi_iload_n dX10_plate_1 rfl ?_
  refine xi_callV [.int (nI k0)] [] dX10_plate_2 zX10_isCell mlX10_141 mm0 rfl rfl rfl rfl rfl (Nat.le_of_ble_eq_true rfl) (Nat.le_of_ble_eq_true rfl) ⟨by decide, by decide⟩ ?_
  refine n_isCT hW hG (k := k0) (by omega) ?_
  show WP _ _ 5 _ [.int (xb true)] _ _
  refine xb_if_eq true 22 dX10_plate_5 (by decide) rfl (fun z => absurd z (by decide)) (fun _ => ?_)
  refine xi_iload_n dX10_plate_8 rfl ?_
  refine xi_iconst (v := 0) dX10_plate_9 rfl ?_
  refine xi_aload_n dX10_plate_10 rfl ?_
  refine xe_getI (v := nI (gD G)) dX10_plate_11 fgX10_104 mm0 rfl (mg_D hG) ?_
  refine xi_iconst (v := 1) dX10_plate_14 rfl ?_
  refine xi_isub dX10_plate_15 ?_
  refine xi_callS [.int (nI k1), .int 0, .int (nI (gD G) - 1)] [] dX10_plate_16 zX10_in mlX10_137 rfl rfl rfl (Nat.le_of_ble_eq_true rfl) (Nat.le_of_ble_eq_true rfl) ⟨by decide, by decide⟩ ?_
  refine n_in1T (k := k1) (n := (gD G)) (by omega) (by omega) ?_
  show WP _ _ 19 _ [.int (xb true)] _ _
  refine xb_if_ne true 24 dX10_plate_19 (by decide) rfl (fun _ => ?_) (fun z => absurd z (by decide))
  refine xi_aload_n dX10_plate_24 rfl ?_
  refine xi_callV [] [] dX10_plate_25 zX10_isStarted mlX10_145 mm0 rfl rfl rfl rfl rfl (Nat.le_of_ble_eq_true rfl) (Nat.le_of_ble_eq_true rfl) ⟨by decide, by decide⟩ ?_
  refine o_started hX hC ?_
  show WP _ _ 28 _ [.int (xb (decide (0 < now ∨ 0 < nl)))] _ _
  refine xb_if_eq (decide (0 < now ∨ 0 < nl)) 34 dX10_plate_28 (by decide) rfl (fun h28 => ?_) (fun h28 => ?_)
  · have e28 := of_decide_eq_false h28
    refine xi_aload_n dX10_plate_34 rfl ?_
    refine xi_getR dX10_plate_35 fgX10_19 mm0 rfl ?_
    refine xi_iload_n dX10_plate_38 rfl ?_
    have q1 := wmap k0 (by omega)
    refine xe_iald (v := nI (gmap G k0)) k0 dX10_plate_39 mm1 (by decide) rfl (by omega) (mg_map hG (by omega)) ?_
    refine xn_if_eq (gmap G k0) 46 dX10_plate_40 (by decide) rfl (by omega) (fun h40 => ?_) (fun h40 => ?_)
    · skip
      refine xi_aload_n dX10_plate_46 rfl ?_
      refine xi_getR dX10_plate_47 fgX10_19 mm0 rfl ?_
      refine xi_iload_n dX10_plate_50 rfl ?_
      refine xi_iconst (v := 3) dX10_plate_51 rfl ?_
      refine xe_iast k0 dX10_plate_52 mm1 (by decide) rfl (by omega) ?_
      refine xi_aload_n dX10_plate_53 rfl ?_
      refine xi_getR dX10_plate_54 fgX10_23 mm0 rfl ?_
      refine xi_iload_n dX10_plate_57 rfl ?_
      refine xi_iload_n dX10_plate_58 rfl ?_
      refine xe_iast k0 dX10_plate_59 mm2 (by decide) rfl (by omega) ?_
      refine xi_aload_n dX10_plate_60 rfl ?_
      refine xat 61 rfl ?_
      refine xi_iconst (v := 0) dX10_plate_61 rfl ?_
      refine xi_callV [.int 0] [] dX10_plate_62 zX10_learn mlX10_152 mm0 rfl rfl rfl rfl rfl (Nat.le_of_ble_eq_true rfl) (Nat.le_of_ble_eq_true rfl) ⟨by decide, by decide⟩ ?_
      have wGp : wG (uPlate G k0 k1) := wG_plate hW hk1
      have hwp : wS (uPlate G k0 k1) S0 := wS_gr hw0 rfl rfl rfl rfl
      refine n_learnK wGp (MG_plate hG) (s := 0) (by omega) (show RM (uPlate G k0 k1) S0 _ 0 from hNS.1 0 (by omega)) hwp (fun M2 F2 S2 => ?_)
      show WP _ _ 65 _ [] _ _
      refine xi_iconst (v := 3) dX10_plate_65 rfl ?_
      refine xi_iret (v := 3) dX10_plate_66 rfl ?_
      simp only [st_plate, ec0, ec1] at h
      rw [if_neg e28, if_neg (by omega)] at h
      exact h _ (RepM_plate hC (by omega) F2 S2)
    · skip
      refine xi_bipush (v := (-3)) dX10_plate_43 (by decide) ?_
      refine xi_iret (v := (-3)) dX10_plate_45 rfl ?_
      simp only [st_plate, ec0, ec1] at h
      rw [if_neg e28, if_pos (by omega)] at h
      exact h M hC
  · have e28 := of_decide_eq_true h28
    refine xi_bipush (v := (-2)) dX10_plate_31 (by decide) ?_
    refine xi_iret (v := (-2)) dX10_plate_33 rfl ?_
    simp only [st_plate, ec0, ec1] at h
    rw [if_pos e28] at h
    exact h M hC

set_option maxHeartbeats 4000000 in
set_option maxRecDepth 100000 in
theorem n_addT {M : xM} {Q : Option Value → xM → Prop} {n q : Nat} {c : Int32} (hn : n < 16) (hq : q ≤ 7) (ht : M.1 0 8 = nI n) (h : ∀ M2, FA n q c M M2 → Q none M2) : WP shM mX10_addThing 0 [some (.ref 0), some (.int (nI q)), some (.int c), none] [] M Q := by
  refine xi_bipush (v := 6) dX10_addThing_0 (by decide) ?_
  refine xi_aload_n dX10_addThing_2 rfl ?_
  refine xe_getI (v := nI n) dX10_addThing_3 fgX10_107 mm0 rfl ht ?_
  refine xe_imul dX10_addThing_6 (v := nI (6 * n)) (pk_mul 6 n) ?_
  refine xi_istore_n (lv' := [some (.ref 0), some (.int (nI q)), some (.int c), some (.int (nI (6 * n)))]) dX10_addThing_7 (by decide) rfl ?_
  refine xi_aload_n dX10_addThing_8 rfl ?_
  refine xi_getR dX10_addThing_9 fgX10_29 mm0 rfl ?_
  refine xi_aload_n dX10_addThing_12 rfl ?_
  refine xe_getI (v := nI n) dX10_addThing_13 fgX10_107 mm0 rfl ht ?_
  refine xi_iload_n dX10_addThing_16 rfl ?_
  refine xe_iast n dX10_addThing_17 mm4 (by decide) rfl (by omega) ?_
  refine xat 18 rfl ?_
  refine xi_aload_n dX10_addThing_18 rfl ?_
  refine xi_getR dX10_addThing_19 fgX10_39 mm0 rfl ?_
  refine xi_iload_n dX10_addThing_22 rfl ?_
  refine xi_iconst (v := 0) dX10_addThing_23 rfl ?_
  refine xe_iadd dX10_addThing_24 (v := nI (6 * n + 0)) (nI_add (6 * n) 0) ?_
  refine xi_iload_n dX10_addThing_25 rfl ?_
  refine xe_iast (6 * n + 0) dX10_addThing_26 mm5 (by decide) rfl (by omega) ?_
  refine xi_aload_n dX10_addThing_27 rfl ?_
  refine xi_getR dX10_addThing_28 fgX10_39 mm0 rfl ?_
  refine xi_iload_n dX10_addThing_31 rfl ?_
  refine xi_iconst (v := 1) dX10_addThing_32 rfl ?_
  refine xe_iadd dX10_addThing_33 (v := nI (6 * n + 1)) (nI_add (6 * n) 1) ?_
  refine xat 34 rfl ?_
  refine xi_iload_n dX10_addThing_34 rfl ?_
  refine xn_if_ne q 42 dX10_addThing_35 (by decide) rfl (by omega) (fun h35 => ?_) (fun h35 => ?_)
  · skip
    refine xi_iload_n dX10_addThing_42 rfl ?_
    refine xi_iconst (v := 1) dX10_addThing_43 rfl ?_
    refine xn_icmp_ne q 1 51 dX10_addThing_44 (by decide) rfl rfl (by omega) (by omega) (fun h44 => ?_) (fun h44 => ?_)
    · skip
      refine xi_iload_n dX10_addThing_51 rfl ?_
      refine xi_iconst (v := 2) dX10_addThing_52 rfl ?_
      refine xn_icmp_ne q 2 60 dX10_addThing_53 (by decide) rfl rfl (by omega) (by omega) (fun h53 => ?_) (fun h53 => ?_)
      · skip
        refine xi_iconst (v := 0) dX10_addThing_60 rfl ?_
        refine xe_iast (6 * n + 1) dX10_addThing_61 mm5 (by decide) rfl (by omega) ?_
        refine xi_aload_n dX10_addThing_62 rfl ?_
        refine xi_getR dX10_addThing_63 fgX10_39 mm0 rfl ?_
        refine xi_iload_n dX10_addThing_66 rfl ?_
        refine xi_iconst (v := 2) dX10_addThing_67 rfl ?_
        refine xe_iadd dX10_addThing_68 (v := nI (6 * n + 2)) (nI_add (6 * n) 2) ?_
        refine xi_iload_n dX10_addThing_69 rfl ?_
        refine xn_if_ne q 77 dX10_addThing_70 (by decide) rfl (by omega) (fun h70 => ?_) (fun z => absurd z h35)
        refine xi_iconst (v := 0) dX10_addThing_77 rfl ?_
        refine xe_iast (6 * n + 2) dX10_addThing_78 mm5 (by decide) rfl (by omega) ?_
        refine xat 79 rfl ?_
        refine xi_aload_n dX10_addThing_79 rfl ?_
        refine xi_getR dX10_addThing_80 fgX10_39 mm0 rfl ?_
        refine xi_iload_n dX10_addThing_83 rfl ?_
        refine xi_iconst (v := 3) dX10_addThing_84 rfl ?_
        refine xe_iadd dX10_addThing_85 (v := nI (6 * n + 3)) (nI_add (6 * n) 3) ?_
        refine xi_iconst (v := 0) dX10_addThing_86 rfl ?_
        refine xe_iast (6 * n + 3) dX10_addThing_87 mm5 (by decide) rfl (by omega) ?_
        refine xi_aload_n dX10_addThing_88 rfl ?_
        refine xi_getR dX10_addThing_89 fgX10_39 mm0 rfl ?_
        refine xi_iload_n dX10_addThing_92 rfl ?_
        refine xi_iconst (v := 4) dX10_addThing_93 rfl ?_
        refine xe_iadd dX10_addThing_94 (v := nI (6 * n + 4)) (nI_add (6 * n) 4) ?_
        refine xat 95 rfl ?_
        refine xi_iconst (v := (-1)) dX10_addThing_95 rfl ?_
        refine xe_iast (6 * n + 4) dX10_addThing_96 mm5 (by decide) rfl (by omega) ?_
        refine xi_aload_n dX10_addThing_97 rfl ?_
        refine xi_getR dX10_addThing_98 fgX10_39 mm0 rfl ?_
        refine xi_iload_n dX10_addThing_101 rfl ?_
        refine xi_iconst (v := 5) dX10_addThing_102 rfl ?_
        refine xe_iadd dX10_addThing_103 (v := nI (6 * n + 5)) (nI_add (6 * n) 5) ?_
        refine xi_iconst (v := (-1)) dX10_addThing_104 rfl ?_
        refine xe_iast (6 * n + 5) dX10_addThing_105 mm5 (by decide) rfl (by omega) ?_
        refine xi_aload_n dX10_addThing_106 rfl ?_
        refine xi_dup dX10_addThing_107 rfl ?_
        refine xe_getI (v := nI n) dX10_addThing_108 fgX10_107 mm0 rfl ht ?_
        refine xat 111 rfl ?_
        refine xi_iconst (v := 1) dX10_addThing_111 rfl ?_
        refine xe_iadd dX10_addThing_112 (v := nI (n + 1)) (nI_add n 1) ?_
        refine xi_put dX10_addThing_113 fpX10_107 mm0 rfl ?_
        refine xi_vret dX10_addThing_116 rfl ?_
        refine h _ ⟨fun k hk => xf_k hk, xf_s, rfl, fun a h4 h5 => ?_, ?_, ?_, ?_, ?_, ?_, ?_, ?_, fun i hi => ?_⟩
        · rw [xf_a, xa_n h5, xa_n h5, xa_n h5, xa_n h5, xa_n h5, xa_n h5, xa_n h4]
        · rw [xf_a, xa_n (by decide), xa_n (by decide), xa_n (by decide), xa_n (by decide), xa_n (by decide), xa_n (by decide), xa_s]
        · rw [xf_a, xa_s, upd_n (by omega), xa_s, upd_n (by omega), xa_s, upd_n (by omega), xa_s, upd_n (by omega), xa_s, upd_n (by omega), xa_s, upd_s]
        · rw [xf_a, xa_s, upd_n (by omega), xa_s, upd_n (by omega), xa_s, upd_n (by omega), xa_s, upd_n (by omega), xa_s, upd_s]; unfold mlife; (first | (rw [if_neg h35, if_neg h44, if_pos h53]; rfl) | (rw [if_neg h35, if_neg h44, if_neg h53]; rfl))
        · rw [xf_a, xa_s, upd_n (by omega), xa_s, upd_n (by omega), xa_s, upd_n (by omega), xa_s, upd_s]; (first | (rw [if_pos h70]) | (rw [if_neg h70]))
        · rw [xf_a, xa_s, upd_n (by omega), xa_s, upd_n (by omega), xa_s, upd_s]
        · rw [xf_a, xa_s, upd_n (by omega), xa_s, upd_s]; rfl
        · rw [xf_a, xa_s, upd_s]; rfl
        · rw [xf_a, xa_s, upd_n (by omega), xa_s, upd_n (by omega), xa_s, upd_n (by omega), xa_s, upd_n (by omega), xa_s, upd_n (by omega), xa_s, upd_n (by omega), xa_n (by decide)]
      · skip
        refine xi_iconst (v := 3) dX10_addThing_56 rfl ?_
        refine xi_goto 61 dX10_addThing_57 (by decide) ?_
        refine xe_iast (6 * n + 1) dX10_addThing_61 mm5 (by decide) rfl (by omega) ?_
        refine xi_aload_n dX10_addThing_62 rfl ?_
        refine xi_getR dX10_addThing_63 fgX10_39 mm0 rfl ?_
        refine xi_iload_n dX10_addThing_66 rfl ?_
        refine xi_iconst (v := 2) dX10_addThing_67 rfl ?_
        refine xe_iadd dX10_addThing_68 (v := nI (6 * n + 2)) (nI_add (6 * n) 2) ?_
        refine xi_iload_n dX10_addThing_69 rfl ?_
        refine xn_if_ne q 77 dX10_addThing_70 (by decide) rfl (by omega) (fun h70 => ?_) (fun z => absurd z h35)
        refine xi_iconst (v := 0) dX10_addThing_77 rfl ?_
        refine xe_iast (6 * n + 2) dX10_addThing_78 mm5 (by decide) rfl (by omega) ?_
        refine xi_aload_n dX10_addThing_79 rfl ?_
        refine xat 80 rfl ?_
        refine xi_getR dX10_addThing_80 fgX10_39 mm0 rfl ?_
        refine xi_iload_n dX10_addThing_83 rfl ?_
        refine xi_iconst (v := 3) dX10_addThing_84 rfl ?_
        refine xe_iadd dX10_addThing_85 (v := nI (6 * n + 3)) (nI_add (6 * n) 3) ?_
        refine xi_iconst (v := 0) dX10_addThing_86 rfl ?_
        refine xe_iast (6 * n + 3) dX10_addThing_87 mm5 (by decide) rfl (by omega) ?_
        refine xi_aload_n dX10_addThing_88 rfl ?_
        refine xi_getR dX10_addThing_89 fgX10_39 mm0 rfl ?_
        refine xi_iload_n dX10_addThing_92 rfl ?_
        refine xi_iconst (v := 4) dX10_addThing_93 rfl ?_
        refine xe_iadd dX10_addThing_94 (v := nI (6 * n + 4)) (nI_add (6 * n) 4) ?_
        refine xi_iconst (v := (-1)) dX10_addThing_95 rfl ?_
        refine xat 96 rfl ?_
        refine xe_iast (6 * n + 4) dX10_addThing_96 mm5 (by decide) rfl (by omega) ?_
        refine xi_aload_n dX10_addThing_97 rfl ?_
        refine xi_getR dX10_addThing_98 fgX10_39 mm0 rfl ?_
        refine xi_iload_n dX10_addThing_101 rfl ?_
        refine xi_iconst (v := 5) dX10_addThing_102 rfl ?_
        refine xe_iadd dX10_addThing_103 (v := nI (6 * n + 5)) (nI_add (6 * n) 5) ?_
        refine xi_iconst (v := (-1)) dX10_addThing_104 rfl ?_
        refine xe_iast (6 * n + 5) dX10_addThing_105 mm5 (by decide) rfl (by omega) ?_
        refine xi_aload_n dX10_addThing_106 rfl ?_
        refine xi_dup dX10_addThing_107 rfl ?_
        refine xe_getI (v := nI n) dX10_addThing_108 fgX10_107 mm0 rfl ht ?_
        refine xi_iconst (v := 1) dX10_addThing_111 rfl ?_
        refine xat 112 rfl ?_
        refine xe_iadd dX10_addThing_112 (v := nI (n + 1)) (nI_add n 1) ?_
        refine xi_put dX10_addThing_113 fpX10_107 mm0 rfl ?_
        refine xi_vret dX10_addThing_116 rfl ?_
        refine h _ ⟨fun k hk => xf_k hk, xf_s, rfl, fun a h4 h5 => ?_, ?_, ?_, ?_, ?_, ?_, ?_, ?_, fun i hi => ?_⟩
        · rw [xf_a, xa_n h5, xa_n h5, xa_n h5, xa_n h5, xa_n h5, xa_n h5, xa_n h4]
        · rw [xf_a, xa_n (by decide), xa_n (by decide), xa_n (by decide), xa_n (by decide), xa_n (by decide), xa_n (by decide), xa_s]
        · rw [xf_a, xa_s, upd_n (by omega), xa_s, upd_n (by omega), xa_s, upd_n (by omega), xa_s, upd_n (by omega), xa_s, upd_n (by omega), xa_s, upd_s]
        · rw [xf_a, xa_s, upd_n (by omega), xa_s, upd_n (by omega), xa_s, upd_n (by omega), xa_s, upd_n (by omega), xa_s, upd_s]; unfold mlife; (first | (rw [if_neg h35, if_neg h44, if_pos h53]; rfl) | (rw [if_neg h35, if_neg h44, if_neg h53]; rfl))
        · rw [xf_a, xa_s, upd_n (by omega), xa_s, upd_n (by omega), xa_s, upd_n (by omega), xa_s, upd_s]; (first | (rw [if_pos h70]) | (rw [if_neg h70]))
        · rw [xf_a, xa_s, upd_n (by omega), xa_s, upd_n (by omega), xa_s, upd_s]
        · rw [xf_a, xa_s, upd_n (by omega), xa_s, upd_s]; rfl
        · rw [xf_a, xa_s, upd_s]; rfl
        · rw [xf_a, xa_s, upd_n (by omega), xa_s, upd_n (by omega), xa_s, upd_n (by omega), xa_s, upd_n (by omega), xa_s, upd_n (by omega), xa_s, upd_n (by omega), xa_n (by decide)]
    · skip
      refine xi_iconst (v := 2) dX10_addThing_47 rfl ?_
      refine xi_goto 61 dX10_addThing_48 (by decide) ?_
      refine xe_iast (6 * n + 1) dX10_addThing_61 mm5 (by decide) rfl (by omega) ?_
      refine xi_aload_n dX10_addThing_62 rfl ?_
      refine xi_getR dX10_addThing_63 fgX10_39 mm0 rfl ?_
      refine xi_iload_n dX10_addThing_66 rfl ?_
      refine xi_iconst (v := 2) dX10_addThing_67 rfl ?_
      refine xe_iadd dX10_addThing_68 (v := nI (6 * n + 2)) (nI_add (6 * n) 2) ?_
      refine xi_iload_n dX10_addThing_69 rfl ?_
      refine xn_if_ne q 77 dX10_addThing_70 (by decide) rfl (by omega) (fun h70 => ?_) (fun z => absurd z h35)
      refine xi_iconst (v := 0) dX10_addThing_77 rfl ?_
      refine xe_iast (6 * n + 2) dX10_addThing_78 mm5 (by decide) rfl (by omega) ?_
      refine xi_aload_n dX10_addThing_79 rfl ?_
      refine xat 80 rfl ?_
      refine xi_getR dX10_addThing_80 fgX10_39 mm0 rfl ?_
      refine xi_iload_n dX10_addThing_83 rfl ?_
      refine xi_iconst (v := 3) dX10_addThing_84 rfl ?_
      refine xe_iadd dX10_addThing_85 (v := nI (6 * n + 3)) (nI_add (6 * n) 3) ?_
      refine xi_iconst (v := 0) dX10_addThing_86 rfl ?_
      refine xe_iast (6 * n + 3) dX10_addThing_87 mm5 (by decide) rfl (by omega) ?_
      refine xi_aload_n dX10_addThing_88 rfl ?_
      refine xi_getR dX10_addThing_89 fgX10_39 mm0 rfl ?_
      refine xi_iload_n dX10_addThing_92 rfl ?_
      refine xi_iconst (v := 4) dX10_addThing_93 rfl ?_
      refine xe_iadd dX10_addThing_94 (v := nI (6 * n + 4)) (nI_add (6 * n) 4) ?_
      refine xi_iconst (v := (-1)) dX10_addThing_95 rfl ?_
      refine xat 96 rfl ?_
      refine xe_iast (6 * n + 4) dX10_addThing_96 mm5 (by decide) rfl (by omega) ?_
      refine xi_aload_n dX10_addThing_97 rfl ?_
      refine xi_getR dX10_addThing_98 fgX10_39 mm0 rfl ?_
      refine xi_iload_n dX10_addThing_101 rfl ?_
      refine xi_iconst (v := 5) dX10_addThing_102 rfl ?_
      refine xe_iadd dX10_addThing_103 (v := nI (6 * n + 5)) (nI_add (6 * n) 5) ?_
      refine xi_iconst (v := (-1)) dX10_addThing_104 rfl ?_
      refine xe_iast (6 * n + 5) dX10_addThing_105 mm5 (by decide) rfl (by omega) ?_
      refine xi_aload_n dX10_addThing_106 rfl ?_
      refine xi_dup dX10_addThing_107 rfl ?_
      refine xe_getI (v := nI n) dX10_addThing_108 fgX10_107 mm0 rfl ht ?_
      refine xi_iconst (v := 1) dX10_addThing_111 rfl ?_
      refine xat 112 rfl ?_
      refine xe_iadd dX10_addThing_112 (v := nI (n + 1)) (nI_add n 1) ?_
      refine xi_put dX10_addThing_113 fpX10_107 mm0 rfl ?_
      refine xi_vret dX10_addThing_116 rfl ?_
      refine h _ ⟨fun k hk => xf_k hk, xf_s, rfl, fun a h4 h5 => ?_, ?_, ?_, ?_, ?_, ?_, ?_, ?_, fun i hi => ?_⟩
      · rw [xf_a, xa_n h5, xa_n h5, xa_n h5, xa_n h5, xa_n h5, xa_n h5, xa_n h4]
      · rw [xf_a, xa_n (by decide), xa_n (by decide), xa_n (by decide), xa_n (by decide), xa_n (by decide), xa_n (by decide), xa_s]
      · rw [xf_a, xa_s, upd_n (by omega), xa_s, upd_n (by omega), xa_s, upd_n (by omega), xa_s, upd_n (by omega), xa_s, upd_n (by omega), xa_s, upd_s]
      · rw [xf_a, xa_s, upd_n (by omega), xa_s, upd_n (by omega), xa_s, upd_n (by omega), xa_s, upd_n (by omega), xa_s, upd_s]; unfold mlife; rw [if_neg h35, if_pos h44]; rfl
      · rw [xf_a, xa_s, upd_n (by omega), xa_s, upd_n (by omega), xa_s, upd_n (by omega), xa_s, upd_s]; (first | (rw [if_pos h70]) | (rw [if_neg h70]))
      · rw [xf_a, xa_s, upd_n (by omega), xa_s, upd_n (by omega), xa_s, upd_s]
      · rw [xf_a, xa_s, upd_n (by omega), xa_s, upd_s]; rfl
      · rw [xf_a, xa_s, upd_s]; rfl
      · rw [xf_a, xa_s, upd_n (by omega), xa_s, upd_n (by omega), xa_s, upd_n (by omega), xa_s, upd_n (by omega), xa_s, upd_n (by omega), xa_s, upd_n (by omega), xa_n (by decide)]
  · skip
    refine xi_iconst (v := 5) dX10_addThing_38 rfl ?_
    refine xi_goto 61 dX10_addThing_39 (by decide) ?_
    refine xe_iast (6 * n + 1) dX10_addThing_61 mm5 (by decide) rfl (by omega) ?_
    refine xi_aload_n dX10_addThing_62 rfl ?_
    refine xi_getR dX10_addThing_63 fgX10_39 mm0 rfl ?_
    refine xi_iload_n dX10_addThing_66 rfl ?_
    refine xi_iconst (v := 2) dX10_addThing_67 rfl ?_
    refine xe_iadd dX10_addThing_68 (v := nI (6 * n + 2)) (nI_add (6 * n) 2) ?_
    refine xi_iload_n dX10_addThing_69 rfl ?_
    refine xn_if_ne q 77 dX10_addThing_70 (by decide) rfl (by omega) (fun z => absurd h35 z) (fun h70 => ?_)
    refine xi_iconst (v := 1) dX10_addThing_73 rfl ?_
    refine xi_goto 78 dX10_addThing_74 (by decide) ?_
    refine xe_iast (6 * n + 2) dX10_addThing_78 mm5 (by decide) rfl (by omega) ?_
    refine xi_aload_n dX10_addThing_79 rfl ?_
    refine xi_getR dX10_addThing_80 fgX10_39 mm0 rfl ?_
    refine xi_iload_n dX10_addThing_83 rfl ?_
    refine xi_iconst (v := 3) dX10_addThing_84 rfl ?_
    refine xe_iadd dX10_addThing_85 (v := nI (6 * n + 3)) (nI_add (6 * n) 3) ?_
    refine xi_iconst (v := 0) dX10_addThing_86 rfl ?_
    refine xe_iast (6 * n + 3) dX10_addThing_87 mm5 (by decide) rfl (by omega) ?_
    refine xi_aload_n dX10_addThing_88 rfl ?_
    refine xi_getR dX10_addThing_89 fgX10_39 mm0 rfl ?_
    refine xi_iload_n dX10_addThing_92 rfl ?_
    refine xat 93 rfl ?_
    refine xi_iconst (v := 4) dX10_addThing_93 rfl ?_
    refine xe_iadd dX10_addThing_94 (v := nI (6 * n + 4)) (nI_add (6 * n) 4) ?_
    refine xi_iconst (v := (-1)) dX10_addThing_95 rfl ?_
    refine xe_iast (6 * n + 4) dX10_addThing_96 mm5 (by decide) rfl (by omega) ?_
    refine xi_aload_n dX10_addThing_97 rfl ?_
    refine xi_getR dX10_addThing_98 fgX10_39 mm0 rfl ?_
    refine xi_iload_n dX10_addThing_101 rfl ?_
    refine xi_iconst (v := 5) dX10_addThing_102 rfl ?_
    refine xe_iadd dX10_addThing_103 (v := nI (6 * n + 5)) (nI_add (6 * n) 5) ?_
    refine xi_iconst (v := (-1)) dX10_addThing_104 rfl ?_
    refine xe_iast (6 * n + 5) dX10_addThing_105 mm5 (by decide) rfl (by omega) ?_
    refine xi_aload_n dX10_addThing_106 rfl ?_
    refine xat 107 rfl ?_
    refine xi_dup dX10_addThing_107 rfl ?_
    refine xe_getI (v := nI n) dX10_addThing_108 fgX10_107 mm0 rfl ht ?_
    refine xi_iconst (v := 1) dX10_addThing_111 rfl ?_
    refine xe_iadd dX10_addThing_112 (v := nI (n + 1)) (nI_add n 1) ?_
    refine xi_put dX10_addThing_113 fpX10_107 mm0 rfl ?_
    refine xi_vret dX10_addThing_116 rfl ?_
    refine h _ ⟨fun k hk => xf_k hk, xf_s, rfl, fun a h4 h5 => ?_, ?_, ?_, ?_, ?_, ?_, ?_, ?_, fun i hi => ?_⟩
    · rw [xf_a, xa_n h5, xa_n h5, xa_n h5, xa_n h5, xa_n h5, xa_n h5, xa_n h4]
    · rw [xf_a, xa_n (by decide), xa_n (by decide), xa_n (by decide), xa_n (by decide), xa_n (by decide), xa_n (by decide), xa_s]
    · rw [xf_a, xa_s, upd_n (by omega), xa_s, upd_n (by omega), xa_s, upd_n (by omega), xa_s, upd_n (by omega), xa_s, upd_n (by omega), xa_s, upd_s]
    · rw [xf_a, xa_s, upd_n (by omega), xa_s, upd_n (by omega), xa_s, upd_n (by omega), xa_s, upd_n (by omega), xa_s, upd_s]; unfold mlife; rw [if_pos h35]; rfl
    · rw [xf_a, xa_s, upd_n (by omega), xa_s, upd_n (by omega), xa_s, upd_n (by omega), xa_s, upd_s]; (first | (rw [if_pos h70]) | (rw [if_neg h70]))
    · rw [xf_a, xa_s, upd_n (by omega), xa_s, upd_n (by omega), xa_s, upd_s]
    · rw [xf_a, xa_s, upd_n (by omega), xa_s, upd_s]; rfl
    · rw [xf_a, xa_s, upd_s]; rfl
    · rw [xf_a, xa_s, upd_n (by omega), xa_s, upd_n (by omega), xa_s, upd_n (by omega), xa_s, upd_n (by omega), xa_s, upd_n (by omega), xa_s, upd_n (by omega), xa_n (by decide)]

theorem RM_put {G : xG} {S : xS} {M M2 : xM} {q k : Nat} (hW : wG G) (h : RM G S M 0) (f : FA (gT G) q (nI k) M M2) (hq : 1 ≤ q) (ht : gT G < 16) (hB : sB S (gT G) = none) : RM (uThing G q) (sPut G S q k) M2 0 := by
  obtain ⟨b1, b2, b3, b4, b5, b6, b7, b8, b9, wmap, wlink, wk0, wk1, b10, b11, wword⟩ := id hW
  obtain ⟨f1, f2, f3, f4, f5, c0, c1, c2, c3, c4, c5, fo⟩ := f
  refine ⟨fun n hn => ?_, fun n hn => ?_, fun n hn => ?_, fun n hn => ?_, fun n hn => ?_, fun n hn => ?_, fun n hn => ?_, fun n hn => ?_, fun n hn => ?_, fun n h1 hn => ?_⟩
  · change n < gT G + 1 at hn
    rw [Nat.zero_add]
    show _ = va_up (sC S) (gT G) (nI k) n
    by_cases e : n = gT G
    · rw [e, up_s]; exact c0
    · rw [up_n e, fo _ (by omega)]; have := h.1 n (by omega); rw [Nat.zero_add] at this; exact this
  · change n < gT G + 1 at hn
    rw [Nat.zero_add]
    show _ = nI (va_up (sL S) (gT G) (mlife q) n)
    by_cases e : n = gT G
    · rw [e, up_s]; exact c1
    · rw [up_n e, fo _ (by omega)]; have := h.2.1 n (by omega); rw [Nat.zero_add] at this; exact this
  · change n < gT G + 1 at hn
    rw [Nat.zero_add]
    show _ = xo (sB S n)
    by_cases e : n = gT G
    · rw [e, hB]; exact c5
    · rw [fo _ (by omega)]; have := h.2.2.1 n (by omega); rw [Nat.zero_add] at this; exact this
  · change n < gP G at hn
    rw [fo _ (by omega)]; exact h.2.2.2.1 n hn
  · change n < gP G at hn
    rw [fo _ (by omega)]; exact h.2.2.2.2.1 n hn
  · change n < gP G at hn
    rw [fo _ (by omega)]; exact h.2.2.2.2.2.1 n hn
  · change n < gP G at hn
    rw [fo _ (by omega)]; exact h.2.2.2.2.2.2.1 n hn
  · change n < gP G at hn
    rw [fo _ (by omega)]; exact h.2.2.2.2.2.2.2.1 n hn
  · change n < gD G at hn
    rw [fo _ (by omega)]; exact h.2.2.2.2.2.2.2.2.1 n hn
  · change gP G ≤ n at h1
    change n < gT G + 1 at hn
    rw [Nat.zero_add]
    by_cases e : n = gT G
    · rw [e]; exact ⟨c2.trans (if_neg (by omega)), c3, c4⟩
    · rw [fo _ (by omega), fo _ (by omega), fo _ (by omega)]
      have := h.2.2.2.2.2.2.2.2.2 n h1 (by omega)
      rw [Nat.zero_add] at this
      exact this
theorem RepM_place {G : xG} {S0 : xS} {now late risk : Nat} {A : Nat → Nat} {L : Nat → Bool} {sq : Nat → Nat} {nl : Nat} {rf hr : Int32} {lg : xE2} {w : xw} {tp : Nat → xT} {M : xM}  {M2 : xM} {k q : Nat} (hW : wG G) (hC : RepM (G, S0, now, late, risk, A, L, sq, nl, rf, hr, lg, w, tp) M) (e0 : now = 0) (ht : gT G < 16) (hB : ∀ n, sB S0 n = none) (hq : 1 ≤ q) (F : FA (gT G) q (nI k) M M2) : RepM (uThing G q, sPut G S0 q k, now, late, risk, A, L, sq, nl, rf, hr, lg, w, tp) M2 := by
  subst e0
  obtain ⟨a, b, c, d, e, f, g, i, j, k0⟩ := RepM_0.mp hC
  obtain ⟨f1, f2, f3, f4, f5, c0, c1, c2, c3, c4, c5, fo⟩ := id F
  obtain ⟨q0, q1, q2, q3, q4, q5, q6, q7, q8⟩ := a
  refine RepM_0.mpr ⟨⟨by rw [f1 1 (by decide)]; exact q0, by rw [f1 2 (by decide)]; exact q1, by rw [f1 3 (by decide)]; exact q2, by rw [f1 6 (by decide)]; exact q3, f2, by rw [f4 1 (by decide) (by decide)]; exact q5, by rw [f4 2 (by decide) (by decide)]; exact q6, by rw [f4 3 (by decide) (by decide)]; exact q7, fun n hn => ?_⟩, ⟨RM_put hW b.1 F hq ht (hB _), fun n hn => by rw [fo _ (by omega)]; exact b.2 n hn⟩, c.sm (f4 6 (by decide) (by decide)), d.sm (f4 7 (by decide) (by decide)), e.sm (f4 8 (by decide) (by decide)), f.sm (f4 10 (by decide) (by decide)) (fun k _ _ => f1 k (by omega)), g.sm (f4 9 (by decide) (by decide)), i.sm (fun a q1 q2 => f4 a (by omega) (by omega)) (by rw [f3]), j.sm (fun a q1 q2 => f4 a (by omega) (by omega)) (by rw [f3]), k0.sm (fun k _ => f1 k (by omega))⟩
  change n < gT G + 1 at hn
  rw [f5]
  show upd (M.2.1 4) (gT G) (nI q) n = nI (va_up (gkind G) (gT G) q n)
  by_cases e : n = gT G
  · rw [e, upd_s, up_s]
  · rw [upd_n e, up_n e]; exact q8 n (by omega)

set_option maxHeartbeats 4000000 in
set_option maxRecDepth 100000 in
theorem mo_place {X : xX} {M : xM} {Q : Option Value → xM → Prop} (hX : wX X) (hC : RepM X M) (x0 : Int32) (x1 : Int32) (h : ∀ M2, RepM (st_place X x0 x1).2 M2 → Q (some (.int (st_place X x0 x1).1)) M2) : WP shM mX10_place 0 [some (.ref 0), some (.int x0), some (.int x1)] [] M Q := by
  obtain ⟨G, S0, now, late, risk, A, L, sq, nl, rf, hr, lg, w, tp⟩ := X
  obtain ⟨hW, hw0, wn, wl, wr, wA_, wsq, wnl, wmo, wtk, wwt, wtp, wO0, wB0⟩ := id hX
  obtain ⟨b1, b2, b3, b4, b5, b6, b7, b8, b9, wmap, wlink, wk0, wk1, b10, b11, wword⟩ := id hW
  have nb : nl ≤ 2000 := by rw [wnl]; exact mcnt_le 2000
  obtain ⟨hG, hNS, hNA, hNL, hNH, hNE, hNQ, hNW, hNT, hNM⟩ := id hC
  obtain ⟨hno, hla, hri, hnl, hrf, hhr⟩ := id hNM
  obtain ⟨s, es⟩ : ∃ s, s = 112 * now := ⟨_, rfl⟩
  have hs : s ≤ 56000 := by omega
  have hS : RM G (Zf G A S0 now) M s := by rw [es]; exact hNS.1 now (Nat.le_refl _)
  have hw : wS G (Zf G A S0 now) := wS_Zf hW hw0 now
  rcases xrg_cases x0 (lo := 1) (hi := 7) (by omega) (by omega) with ⟨ec0, hc0⟩ | ⟨k0, hk0, hl0, rfl, ec0⟩
  · skip
    refine xi_iload_n dX10_place_0 rfl ?_
    refine xi_iconst (v := 1) dX10_place_1 rfl ?_
    refine xi_bipush (v := 7) dX10_place_2 (by decide) ?_
    refine xi_callS [.int x0, .int 1, .int 7] [] dX10_place_4 zX10_in mlX10_137 rfl rfl rfl (Nat.le_of_ble_eq_true rfl) (Nat.le_of_ble_eq_true rfl) ⟨by decide, by decide⟩ ?_
    refine n_inF (l := 1) (r := 7) hc0 ?_
    show WP _ _ 7 _ [.int (xb false)] _ _
    refine xb_if_eq false 18 dX10_place_7 (by decide) rfl (fun _ => ?_) (fun z => absurd z (by decide))
    refine xi_iconst (v := (-1)) dX10_place_18 rfl ?_
    refine xi_iret (v := (-1)) dX10_place_19 rfl ?_
    have e : st_place (G, S0, now, late, risk, A, L, sq, nl, rf, hr, lg, w, tp) x0 x1 = (-1, (G, S0, now, late, risk, A, L, sq, nl, rf, hr, lg, w, tp)) := by simp only [st_place, ec0]
    rw [e] at h
    exact h M hC
  rcases xix_cases x1 (n := gN G) (by omega) with ⟨ec1, hc1⟩ | ⟨k1, hk1, rfl, ec1⟩
  · skip
    refine xi_iload_n dX10_place_0 rfl ?_
    refine xi_iconst (v := 1) dX10_place_1 rfl ?_
    refine xi_bipush (v := 7) dX10_place_2 (by decide) ?_
    refine xi_callS [.int (nI k0), .int 1, .int 7] [] dX10_place_4 zX10_in mlX10_137 rfl rfl rfl (Nat.le_of_ble_eq_true rfl) (Nat.le_of_ble_eq_true rfl) ⟨by decide, by decide⟩ ?_
    refine n_inT (k := k0) (l := 1) (r := 7) (by omega) (by omega) (by omega) ?_
    show WP _ _ 7 _ [.int (xb true)] _ _
    refine xb_if_eq true 18 dX10_place_7 (by decide) rfl (fun z => absurd z (by decide)) (fun _ => ?_)
    refine xi_aload_n dX10_place_10 rfl ?_
    refine xi_iload_n dX10_place_11 rfl ?_
    refine xi_callV [.int x1] [] dX10_place_12 zX10_isCell mlX10_141 mm0 rfl rfl rfl rfl rfl (Nat.le_of_ble_eq_true rfl) (Nat.le_of_ble_eq_true rfl) ⟨by decide, by decide⟩ ?_
    refine n_isCF hW hG hc1 ?_
    show WP _ _ 15 _ [.int (xb false)] _ _
    refine xb_if_ne false 20 dX10_place_15 (by decide) rfl (fun z => absurd z (by decide)) (fun _ => ?_)
    refine xi_iconst (v := (-1)) dX10_place_18 rfl ?_
    refine xi_iret (v := (-1)) dX10_place_19 rfl ?_
    have e : st_place (G, S0, now, late, risk, A, L, sq, nl, rf, hr, lg, w, tp) (nI k0) x1 = (-1, (G, S0, now, late, risk, A, L, sq, nl, rf, hr, lg, w, tp)) := by simp only [st_place, ec0, ec1]
    rw [e] at h
    exact h M hC
  refine xi_iload_n dX10_place_0 rfl ?_
  refine xi_iconst (v := 1) dX10_place_1 rfl ?_
  refine xi_bipush (v := 7) dX10_place_2 (by decide) ?_
  refine xi_callS [.int (nI k0), .int 1, .int 7] [] dX10_place_4 zX10_in mlX10_137 rfl rfl rfl (Nat.le_of_ble_eq_true rfl) (Nat.le_of_ble_eq_true rfl) ⟨by decide, by decide⟩ ?_
  refine n_inT (k := k0) (l := 1) (r := 7) (by omega) (by omega) (by omega) ?_
  show WP _ _ 7 _ [.int (xb true)] _ _
  refine xb_if_eq true 18 dX10_place_7 (by decide) rfl (fun z => absurd z (by decide)) (fun _ => ?_)
  refine xi_aload_n dX10_place_10 rfl ?_
  refine xi_iload_n dX10_place_11 rfl ?_
  refine xi_callV [.int (nI k1)] [] dX10_place_12 zX10_isCell mlX10_141 mm0 rfl rfl rfl rfl rfl (Nat.le_of_ble_eq_true rfl) (Nat.le_of_ble_eq_true rfl) ⟨by decide, by decide⟩ ?_
  refine n_isCT hW hG (k := k1) (by omega) ?_
  show WP _ _ 15 _ [.int (xb true)] _ _
  refine xb_if_ne true 20 dX10_place_15 (by decide) rfl (fun _ => ?_) (fun z => absurd z (by decide))
  refine xi_aload_n dX10_place_20 rfl ?_
  refine xi_callV [] [] dX10_place_21 zX10_isStarted mlX10_145 mm0 rfl rfl rfl rfl rfl (Nat.le_of_ble_eq_true rfl) (Nat.le_of_ble_eq_true rfl) ⟨by decide, by decide⟩ ?_
  refine o_started hX hC ?_
  show WP _ _ 24 _ [.int (xb (decide (0 < now ∨ 0 < nl)))] _ _
  refine xb_if_eq (decide (0 < now ∨ 0 < nl)) 30 dX10_place_24 (by decide) rfl (fun h24 => ?_) (fun h24 => ?_)
  · have e24 := of_decide_eq_false h24
    refine xi_aload_n dX10_place_30 rfl ?_
    refine xi_getR dX10_place_31 fgX10_19 mm0 rfl ?_
    refine xi_iload_n dX10_place_34 rfl ?_
    have q1 := wmap k1 (by omega)
    refine xe_iald (v := nI (gmap G k1)) k1 dX10_place_35 mm1 (by decide) rfl (by omega) (mg_map hG (by omega)) ?_
    refine xi_iconst (v := 1) dX10_place_36 rfl ?_
    refine xn_icmp_eq (gmap G k1) 1 64 dX10_place_37 (by decide) rfl rfl (by omega) (by omega) (fun h37 => ?_) (fun h37 => ?_)
    · skip
      refine xi_bipush (v := (-3)) dX10_place_64 (by decide) ?_
      refine xi_iret (v := (-3)) dX10_place_66 rfl ?_
      simp only [st_place, ec0, ec1] at h
      rw [if_neg e24, if_pos (by first | exact Or.inl h37 | exact Or.inr (Or.inl h47) | exact Or.inr (Or.inr ⟨by omega, by rw [eo58]; rfl⟩))] at h
      exact h M hC
    · skip
      refine xi_aload_n dX10_place_40 rfl ?_
      refine xi_getR dX10_place_41 fgX10_19 mm0 rfl ?_
      refine xi_iload_n dX10_place_44 rfl ?_
      have q2 := wmap k1 (by omega)
      refine xe_iald (v := nI (gmap G k1)) k1 dX10_place_45 mm1 (by decide) rfl (by omega) (mg_map hG (by omega)) ?_
      refine xi_iconst (v := 2) dX10_place_46 rfl ?_
      refine xn_icmp_eq (gmap G k1) 2 64 dX10_place_47 (by decide) rfl rfl (by omega) (by omega) (fun h47 => ?_) (fun h47 => ?_)
      · skip
        refine xi_bipush (v := (-3)) dX10_place_64 (by decide) ?_
        refine xi_iret (v := (-3)) dX10_place_66 rfl ?_
        simp only [st_place, ec0, ec1] at h
        rw [if_neg e24, if_pos (by first | exact Or.inl h37 | exact Or.inr (Or.inl h47) | exact Or.inr (Or.inr ⟨by omega, by rw [eo58]; rfl⟩))] at h
        exact h M hC
      · skip
        refine xi_iload_n dX10_place_50 rfl ?_
        refine xi_iconst (v := 2) dX10_place_51 rfl ?_
        refine xn_icmp_gt k0 2 67 dX10_place_52 (by decide) rfl rfl (by omega) (by omega) (fun h52 => ?_) (fun h52 => ?_)
        · skip
          refine xi_aload_n dX10_place_67 rfl ?_
          refine xe_getI (v := nI (gT G)) dX10_place_68 fgX10_107 mm0 rfl (mg_T hG) ?_
          refine xi_bipush (v := 16) dX10_place_71 (by decide) ?_
          refine xn_icmp_ne (gT G) 16 79 dX10_place_73 (by decide) rfl rfl (by omega) (by omega) (fun h73 => ?_) (fun h73 => ?_)
          · skip
            refine xi_aload_n dX10_place_79 rfl ?_
            refine xi_iload_n dX10_place_80 rfl ?_
            refine xi_iload_n dX10_place_81 rfl ?_
            refine xi_callV [.int (nI k0), .int (nI k1)] [] dX10_place_82 zX10_addThing mlX10_133 mm0 rfl rfl rfl rfl rfl (Nat.le_of_ble_eq_true rfl) (Nat.le_of_ble_eq_true rfl) ⟨by decide, by decide⟩ ?_
            refine n_addT (n := gT G) (q := k0) (c := nI k1) (by omega) (by omega) (mg_T hG) (fun M2 F2 => ?_)
            show WP _ _ 85 _ [] _ _
            refine xi_aload_n dX10_place_85 rfl ?_
            refine xe_getI (v := nI (gT G + 1)) dX10_place_86 fgX10_107 mm0 rfl F2.2.1 ?_
            refine xi_iconst (v := 1) dX10_place_89 rfl ?_
            refine xe_isub dX10_place_90 (v := nI (gT G)) (pk_sub (a := gT G + 1) (b := 1) (by omega)) ?_
            refine xi_iret (v := nI (gT G)) dX10_place_91 rfl ?_
            simp only [st_place, ec0, ec1] at h
            rw [if_neg e24, if_neg (fun q => q.elim (fun z => h37 z) (fun y => y.elim (fun z => h47 z) (fun z => by first | omega | (have z2 := z.2; rw [eo58] at z2; cases z2)))), if_neg (by omega)] at h
            exact h _ (RepM_place hW hC (by omega) (by omega) wB0 hk0 F2)
          · skip
            refine xi_bipush (v := (-4)) dX10_place_76 (by decide) ?_
            refine xi_iret (v := (-4)) dX10_place_78 rfl ?_
            simp only [st_place, ec0, ec1] at h
            rw [if_neg e24, if_neg (fun q => q.elim (fun z => h37 z) (fun y => y.elim (fun z => h47 z) (fun z => by first | omega | (have z2 := z.2; rw [eo58] at z2; cases z2)))), if_pos (by omega)] at h
            exact h M hC
        · skip
          refine xi_aload_n dX10_place_55 rfl ?_
          refine xi_iconst (v := 0) dX10_place_56 rfl ?_
          refine xi_iload_n dX10_place_57 rfl ?_
          refine xi_callV [.int 0, .int (nI k1)] [] dX10_place_58 zX10_standingIn mlX10_156 mm0 rfl rfl rfl rfl rfl (Nat.le_of_ble_eq_true rfl) (Nat.le_of_ble_eq_true rfl) ⟨by decide, by decide⟩ ?_
          refine n_stand hW hG (s := 0) (by omega) (show RM G S0 M 0 from hNS.1 0 (by omega)) hw0 (k := k1) ?_
          show WP _ _ 61 _ [.int (xo (mstand G S0 k1))] _ _
          generalize eo58 : mstand G S0 k1 = o58
          refine xo_if_lt o58 67 dX10_place_61 (by decide) rfl (fun j z => by have := mstand_lt (eo58.trans z); omega) (fun h61 => ?_) (fun j61 h61 => ?_)
          · subst h61
            refine xi_aload_n dX10_place_67 rfl ?_
            refine xe_getI (v := nI (gT G)) dX10_place_68 fgX10_107 mm0 rfl (mg_T hG) ?_
            refine xi_bipush (v := 16) dX10_place_71 (by decide) ?_
            refine xn_icmp_ne (gT G) 16 79 dX10_place_73 (by decide) rfl rfl (by omega) (by omega) (fun h73 => ?_) (fun h73 => ?_)
            · skip
              refine xi_aload_n dX10_place_79 rfl ?_
              refine xi_iload_n dX10_place_80 rfl ?_
              refine xi_iload_n dX10_place_81 rfl ?_
              refine xi_callV [.int (nI k0), .int (nI k1)] [] dX10_place_82 zX10_addThing mlX10_133 mm0 rfl rfl rfl rfl rfl (Nat.le_of_ble_eq_true rfl) (Nat.le_of_ble_eq_true rfl) ⟨by decide, by decide⟩ ?_
              refine n_addT (n := gT G) (q := k0) (c := nI k1) (by omega) (by omega) (mg_T hG) (fun M2 F2 => ?_)
              show WP _ _ 85 _ [] _ _
              refine xi_aload_n dX10_place_85 rfl ?_
              refine xe_getI (v := nI (gT G + 1)) dX10_place_86 fgX10_107 mm0 rfl F2.2.1 ?_
              refine xi_iconst (v := 1) dX10_place_89 rfl ?_
              refine xe_isub dX10_place_90 (v := nI (gT G)) (pk_sub (a := gT G + 1) (b := 1) (by omega)) ?_
              refine xi_iret (v := nI (gT G)) dX10_place_91 rfl ?_
              simp only [st_place, ec0, ec1] at h
              rw [if_neg e24, if_neg (fun q => q.elim (fun z => h37 z) (fun y => y.elim (fun z => h47 z) (fun z => by first | omega | (have z2 := z.2; rw [eo58] at z2; cases z2)))), if_neg (by omega)] at h
              exact h _ (RepM_place hW hC (by omega) (by omega) wB0 hk0 F2)
            · skip
              refine xi_bipush (v := (-4)) dX10_place_76 (by decide) ?_
              refine xi_iret (v := (-4)) dX10_place_78 rfl ?_
              simp only [st_place, ec0, ec1] at h
              rw [if_neg e24, if_neg (fun q => q.elim (fun z => h37 z) (fun y => y.elim (fun z => h47 z) (fun z => by first | omega | (have z2 := z.2; rw [eo58] at z2; cases z2)))), if_pos (by omega)] at h
              exact h M hC
          · subst h61
            refine xi_bipush (v := (-3)) dX10_place_64 (by decide) ?_
            refine xi_iret (v := (-3)) dX10_place_66 rfl ?_
            simp only [st_place, ec0, ec1] at h
            rw [if_neg e24, if_pos (by first | exact Or.inl h37 | exact Or.inr (Or.inl h47) | exact Or.inr (Or.inr ⟨by omega, by rw [eo58]; rfl⟩))] at h
            exact h M hC
  · have e24 := of_decide_eq_true h24
    refine xi_bipush (v := (-2)) dX10_place_27 (by decide) ?_
    refine xi_iret (v := (-2)) dX10_place_29 rfl ?_
    simp only [st_place, ec0, ec1] at h
    rw [if_pos e24] at h
    exact h M hC

