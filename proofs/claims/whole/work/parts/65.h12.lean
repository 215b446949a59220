set_option maxHeartbeats 4000000 in
set_option maxRecDepth 100000 in
theorem mo_clear {X : xX} {M : xM} {Q : Option Value → xM → Prop} (hX : wX X) (hC : RepM X M) (x0 : Int32) (h : ∀ M2, RepM (st_clear X x0).2 M2 → Q (some (.int (st_clear X x0).1)) M2) : WP shM mX10_clear 0 [some (.ref 0), some (.int x0), none] [] M Q := by
  obtain ⟨G, S0, now, late, risk, A, L, sq, nl, rf, hr, lg, w, tp⟩ := X
  obtain ⟨hW, hw0, wn, wl, wr, wA_, wsq, wnl, wmo, wtk, wwt, wtp, wO0, wB0⟩ := id hX
  obtain ⟨b1, b2, b3, b4, b5, b6, b7, b8, b9, wmap, wlink, wk0, wk1, b10, b11, wword⟩ := id hW
  have nb : nl ≤ 2000 := by rw [wnl]; exact mcnt_le 2000
  obtain ⟨hG, hNS, hNA, hNL, hNH, hNE, hNQ, hNW, hNT, hNM⟩ := id hC
  obtain ⟨hno, hla, hri, hnl, hrf, hhr⟩ := id hNM
  obtain ⟨s, es⟩ : ∃ s, s = 112 * now := ⟨_, rfl⟩
  have hs : s ≤ 56000 := by omega
  have hS : RM G (Zf G A S0 now) M s := by rw [es]; exact hNS.1 now (Nat.le_refl _)
  have hw : wS G (Zf G A S0 now) := wS_Zf hW hw0 now
  rcases xix_cases x0 (n := 6) (by omega) with ⟨ec0, hc0⟩ | ⟨k0, hk0, rfl, ec0⟩
  · skip
    refine xi_iload_n dX10_clear_0 rfl ?_
    refine xi_callS [.int x0] [] dX10_clear_1 zX10_isTape mlX10_290 rfl rfl rfl (Nat.le_of_ble_eq_true rfl) (Nat.le_of_ble_eq_true rfl) ⟨by decide, by decide⟩ ?_
    refine n_isTpF hc0 ?_
    show WP _ _ 4 _ [.int (xb false)] _ _
    refine xb_if_ne false 9 dX10_clear_4 (by decide) rfl (fun z => absurd z (by decide)) (fun _ => ?_)
    refine xi_iconst (v := (-1)) dX10_clear_7 rfl ?_
    refine xi_iret (v := (-1)) dX10_clear_8 rfl ?_
    have e : st_clear (G, S0, now, late, risk, A, L, sq, nl, rf, hr, lg, w, tp) x0 = (-1, (G, S0, now, late, risk, A, L, sq, nl, rf, hr, lg, w, tp)) := by simp only [st_clear, ec0]
    rw [e] at h
    exact h M hC
  refine xi_iload_n dX10_clear_0 rfl ?_
  refine xi_callS [.int (nI k0)] [] dX10_clear_1 zX10_isTape mlX10_290 rfl rfl rfl (Nat.le_of_ble_eq_true rfl) (Nat.le_of_ble_eq_true rfl) ⟨by decide, by decide⟩ ?_
  refine n_isTpT (k := k0) (by omega) ?_
  show WP _ _ 4 _ [.int (xb true)] _ _
  refine xb_if_ne true 9 dX10_clear_4 (by decide) rfl (fun _ => ?_) (fun z => absurd z (by decide))
  refine xi_aload_n dX10_clear_9 rfl ?_
  refine xi_getR dX10_clear_10 fgX10_80 mm0 rfl ?_
  refine xi_iload_n dX10_clear_13 rfl ?_
  refine xe_iald (v := nI ((tp k0).1)) k0 dX10_clear_14 mm18 (by decide) rfl (by omega) (hNT k0 (by omega)).1 ?_
  refine xi_istore_n (lv' := [some (.ref 0), some (.int (nI k0)), some (.int (nI ((tp k0).1)))]) dX10_clear_15 (by decide) rfl ?_
  refine xi_aload_n dX10_clear_16 rfl ?_
  refine xi_getR dX10_clear_17 fgX10_80 mm0 rfl ?_
  refine xi_iload_n dX10_clear_20 rfl ?_
  refine xi_iconst (v := 0) dX10_clear_21 rfl ?_
  refine xe_iast k0 dX10_clear_22 mm18 (by decide) rfl (by omega) ?_
  refine xat 23 rfl ?_
  refine xi_iload_n dX10_clear_23 rfl ?_
  refine xi_iret (v := nI ((tp k0).1)) dX10_clear_24 rfl ?_
  simp only [st_clear, ec0] at h
  refine h _ (RepM_tp hX hC hk0 (Ft.xa (by omega) (by omega)) ⟨by rw [xa_s, upd_s]; rfl, fun q => absurd q (show ¬ 1 ≤ 0 by decide), fun q => absurd q (show ¬ 0 = 5 by decide)⟩)

set_option maxHeartbeats 4000000 in
set_option maxRecDepth 100000 in
theorem mo_put {X : xX} {M : xM} {Q : Option Value → xM → Prop} (hX : wX X) (hC : RepM X M) (x0 : Int32) (x1 : Int32) (x2 : Int64) (h : ∀ M2, RepM (st_put X x0 x1 x2).2 M2 → Q (some (.int (st_put X x0 x1 x2).1)) M2) : WP shM mX10_put 0 [some (.ref 0), some (.int x0), some (.int x1), some (.long x2), none] [] M Q := by
  obtain ⟨G, S0, now, late, risk, A, L, sq, nl, rf, hr, lg, w, tp⟩ := X
  obtain ⟨hW, hw0, wn, wl, wr, wA_, wsq, wnl, wmo, wtk, wwt, wtp, wO0, wB0⟩ := id hX
  obtain ⟨b1, b2, b3, b4, b5, b6, b7, b8, b9, wmap, wlink, wk0, wk1, b10, b11, wword⟩ := id hW
  have nb : nl ≤ 2000 := by rw [wnl]; exact mcnt_le 2000
  obtain ⟨hG, hNS, hNA, hNL, hNH, hNE, hNQ, hNW, hNT, hNM⟩ := id hC
  obtain ⟨hno, hla, hri, hnl, hrf, hhr⟩ := id hNM
  obtain ⟨s, es⟩ : ∃ s, s = 112 * now := ⟨_, rfl⟩
  have hs : s ≤ 56000 := by omega
  have hS : RM G (Zf G A S0 now) M s := by rw [es]; exact hNS.1 now (Nat.le_refl _)
  have hw : wS G (Zf G A S0 now) := wS_Zf hW hw0 now
  have wtq : ∀ d, (tp d).1 ≤ 5 ∧ (tp d).2.1 ≤ 100 ∧ (1 ≤ (tp d).1 ∧ (tp d).1 ≤ 4 → (tp d).2.1 ≤ 80) := fun d => ⟨(wtp d).1, (wtp d).2.1, (wtp d).2.2.2⟩
  rcases xix_cases x0 (n := 6) (by omega) with ⟨ec0, hc0⟩ | ⟨k0, hk0, rfl, ec0⟩
  · skip
    refine xi_iload_n dX10_put_0 rfl ?_
    refine xi_callS [.int x0] [] dX10_put_1 zX10_isTape mlX10_290 rfl rfl rfl (Nat.le_of_ble_eq_true rfl) (Nat.le_of_ble_eq_true rfl) ⟨by decide, by decide⟩ ?_
    refine n_isTpF hc0 ?_
    show WP _ _ 4 _ [.int (xb false)] _ _
    refine xb_if_ne false 9 dX10_put_4 (by decide) rfl (fun z => absurd z (by decide)) (fun _ => ?_)
    refine xi_iconst (v := (-1)) dX10_put_7 rfl ?_
    refine xi_iret (v := (-1)) dX10_put_8 rfl ?_
    have e : st_put (G, S0, now, late, risk, A, L, sq, nl, rf, hr, lg, w, tp) x0 x1 x2 = (-1, (G, S0, now, late, risk, A, L, sq, nl, rf, hr, lg, w, tp)) := by simp only [st_put, ec0]
    rw [e] at h
    exact h M hC
  have z0 := wtq k0
  rcases (show ((tp k0).1 = 0) ∨ ((tp k0).1 = 5) ∨ (1 ≤ (tp k0).1 ∧ (tp k0).1 ≤ 4) by omega) with hs1 | hs1 | hs1
  · skip
    rcases xix_cases x1 (n := (tp k0).2.1) (by omega) with ⟨ec1, hc1⟩ | ⟨k1, hk1, rfl, ec1⟩
    · skip
      refine xi_iload_n dX10_put_0 rfl ?_
      refine xi_callS [.int (nI k0)] [] dX10_put_1 zX10_isTape mlX10_290 rfl rfl rfl (Nat.le_of_ble_eq_true rfl) (Nat.le_of_ble_eq_true rfl) ⟨by decide, by decide⟩ ?_
      refine n_isTpT (k := k0) (by omega) ?_
      show WP _ _ 4 _ [.int (xb true)] _ _
      refine xb_if_ne true 9 dX10_put_4 (by decide) rfl (fun _ => ?_) (fun z => absurd z (by decide))
      refine xi_aload_n dX10_put_9 rfl ?_
      refine xi_getR dX10_put_10 fgX10_80 mm0 rfl ?_
      refine xi_iload_n dX10_put_13 rfl ?_
      refine xe_iald (v := nI ((tp k0).1)) k0 dX10_put_14 mm18 (by decide) rfl (by omega) (hNT k0 (by omega)).1 ?_
      refine xn_if_ne ((tp k0).1) 25 dX10_put_15 (by decide) rfl (by omega) (fun z => absurd z (by omega)) (fun h15 => ?_)
      refine xi_aload_n dX10_put_18 rfl ?_
      refine xi_bipush (v := (-11)) dX10_put_19 (by decide) ?_
      refine xi_callV [.int (-11)] [] dX10_put_21 zX10_host mlX10_293 mm0 rfl rfl rfl rfl rfl (Nat.le_of_ble_eq_true rfl) (Nat.le_of_ble_eq_true rfl) ⟨by decide, by decide⟩ ?_
      refine o_host (x := (-11)) hhr ?_
      show WP _ _ 24 _ [.int (-11)] _ _
      refine xi_iret (v := (-11)) dX10_put_24 rfl ?_
      simp only [st_put, ec0] at h
      rw [if_pos hs1] at h
      exact h _ (RepM_ref hC)
    refine xi_iload_n dX10_put_0 rfl ?_
    refine xi_callS [.int (nI k0)] [] dX10_put_1 zX10_isTape mlX10_290 rfl rfl rfl (Nat.le_of_ble_eq_true rfl) (Nat.le_of_ble_eq_true rfl) ⟨by decide, by decide⟩ ?_
    refine n_isTpT (k := k0) (by omega) ?_
    show WP _ _ 4 _ [.int (xb true)] _ _
    refine xb_if_ne true 9 dX10_put_4 (by decide) rfl (fun _ => ?_) (fun z => absurd z (by decide))
    refine xi_aload_n dX10_put_9 rfl ?_
    refine xi_getR dX10_put_10 fgX10_80 mm0 rfl ?_
    refine xi_iload_n dX10_put_13 rfl ?_
    refine xe_iald (v := nI ((tp k0).1)) k0 dX10_put_14 mm18 (by decide) rfl (by omega) (hNT k0 (by omega)).1 ?_
    refine xn_if_ne ((tp k0).1) 25 dX10_put_15 (by decide) rfl (by omega) (fun z => absurd z (by omega)) (fun h15 => ?_)
    refine xi_aload_n dX10_put_18 rfl ?_
    refine xi_bipush (v := (-11)) dX10_put_19 (by decide) ?_
    refine xi_callV [.int (-11)] [] dX10_put_21 zX10_host mlX10_293 mm0 rfl rfl rfl rfl rfl (Nat.le_of_ble_eq_true rfl) (Nat.le_of_ble_eq_true rfl) ⟨by decide, by decide⟩ ?_
    refine o_host (x := (-11)) hhr ?_
    show WP _ _ 24 _ [.int (-11)] _ _
    refine xi_iret (v := (-11)) dX10_put_24 rfl ?_
    simp only [st_put, ec0] at h
    rw [if_pos hs1] at h
    exact h _ (RepM_ref hC)
  · skip
    rcases xix_cases x1 (n := (tp k0).2.1) (by omega) with ⟨ec1, hc1⟩ | ⟨k1, hk1, rfl, ec1⟩
    · skip
      refine xi_iload_n dX10_put_0 rfl ?_
      refine xi_callS [.int (nI k0)] [] dX10_put_1 zX10_isTape mlX10_290 rfl rfl rfl (Nat.le_of_ble_eq_true rfl) (Nat.le_of_ble_eq_true rfl) ⟨by decide, by decide⟩ ?_
      refine n_isTpT (k := k0) (by omega) ?_
      show WP _ _ 4 _ [.int (xb true)] _ _
      refine xb_if_ne true 9 dX10_put_4 (by decide) rfl (fun _ => ?_) (fun z => absurd z (by decide))
      refine xi_aload_n dX10_put_9 rfl ?_
      refine xi_getR dX10_put_10 fgX10_80 mm0 rfl ?_
      refine xi_iload_n dX10_put_13 rfl ?_
      refine xe_iald (v := nI ((tp k0).1)) k0 dX10_put_14 mm18 (by decide) rfl (by omega) (hNT k0 (by omega)).1 ?_
      refine xn_if_ne ((tp k0).1) 25 dX10_put_15 (by decide) rfl (by omega) (fun h15 => ?_) (fun z => absurd z (by omega))
      refine xi_aload_n dX10_put_25 rfl ?_
      refine xi_getR dX10_put_26 fgX10_80 mm0 rfl ?_
      refine xi_iload_n dX10_put_29 rfl ?_
      refine xe_iald (v := nI ((tp k0).1)) k0 dX10_put_30 mm18 (by decide) rfl (by omega) (hNT k0 (by omega)).1 ?_
      refine xi_iconst (v := 5) dX10_put_31 rfl ?_
      refine xat 32 rfl ?_
      refine xn_icmp_ne ((tp k0).1) 5 42 dX10_put_32 (by decide) rfl rfl (by omega) (by omega) (fun z => absurd z (by omega)) (fun h32 => ?_)
      refine xi_aload_n dX10_put_35 rfl ?_
      refine xi_bipush (v := (-12)) dX10_put_36 (by decide) ?_
      refine xi_callV [.int (-12)] [] dX10_put_38 zX10_host mlX10_293 mm0 rfl rfl rfl rfl rfl (Nat.le_of_ble_eq_true rfl) (Nat.le_of_ble_eq_true rfl) ⟨by decide, by decide⟩ ?_
      refine o_host (x := (-12)) hhr ?_
      show WP _ _ 41 _ [.int (-12)] _ _
      refine xi_iret (v := (-12)) dX10_put_41 rfl ?_
      simp only [st_put, ec0] at h
      rw [if_neg (by omega), if_pos hs1] at h
      exact h _ (RepM_ref hC)
    refine xi_iload_n dX10_put_0 rfl ?_
    refine xi_callS [.int (nI k0)] [] dX10_put_1 zX10_isTape mlX10_290 rfl rfl rfl (Nat.le_of_ble_eq_true rfl) (Nat.le_of_ble_eq_true rfl) ⟨by decide, by decide⟩ ?_
    refine n_isTpT (k := k0) (by omega) ?_
    show WP _ _ 4 _ [.int (xb true)] _ _
    refine xb_if_ne true 9 dX10_put_4 (by decide) rfl (fun _ => ?_) (fun z => absurd z (by decide))
    refine xi_aload_n dX10_put_9 rfl ?_
    refine xi_getR dX10_put_10 fgX10_80 mm0 rfl ?_
    refine xi_iload_n dX10_put_13 rfl ?_
    refine xe_iald (v := nI ((tp k0).1)) k0 dX10_put_14 mm18 (by decide) rfl (by omega) (hNT k0 (by omega)).1 ?_
    refine xn_if_ne ((tp k0).1) 25 dX10_put_15 (by decide) rfl (by omega) (fun h15 => ?_) (fun z => absurd z (by omega))
    refine xi_aload_n dX10_put_25 rfl ?_
    refine xi_getR dX10_put_26 fgX10_80 mm0 rfl ?_
    refine xi_iload_n dX10_put_29 rfl ?_
    refine xe_iald (v := nI ((tp k0).1)) k0 dX10_put_30 mm18 (by decide) rfl (by omega) (hNT k0 (by omega)).1 ?_
    refine xi_iconst (v := 5) dX10_put_31 rfl ?_
    refine xat 32 rfl ?_
    refine xn_icmp_ne ((tp k0).1) 5 42 dX10_put_32 (by decide) rfl rfl (by omega) (by omega) (fun z => absurd z (by omega)) (fun h32 => ?_)
    refine xi_aload_n dX10_put_35 rfl ?_
    refine xi_bipush (v := (-12)) dX10_put_36 (by decide) ?_
    refine xi_callV [.int (-12)] [] dX10_put_38 zX10_host mlX10_293 mm0 rfl rfl rfl rfl rfl (Nat.le_of_ble_eq_true rfl) (Nat.le_of_ble_eq_true rfl) ⟨by decide, by decide⟩ ?_
    refine o_host (x := (-12)) hhr ?_
    show WP _ _ 41 _ [.int (-12)] _ _
    refine xi_iret (v := (-12)) dX10_put_41 rfl ?_
    simp only [st_put, ec0] at h
    rw [if_neg (by omega), if_pos hs1] at h
    exact h _ (RepM_ref hC)
  · skip
    rcases xix_cases x1 (n := (tp k0).2.1) (by omega) with ⟨ec1, hc1⟩ | ⟨k1, hk1, rfl, ec1⟩
    · skip
      refine xi_iload_n dX10_put_0 rfl ?_
      refine xi_callS [.int (nI k0)] [] dX10_put_1 zX10_isTape mlX10_290 rfl rfl rfl (Nat.le_of_ble_eq_true rfl) (Nat.le_of_ble_eq_true rfl) ⟨by decide, by decide⟩ ?_
      refine n_isTpT (k := k0) (by omega) ?_
      show WP _ _ 4 _ [.int (xb true)] _ _
      refine xb_if_ne true 9 dX10_put_4 (by decide) rfl (fun _ => ?_) (fun z => absurd z (by decide))
      refine xi_aload_n dX10_put_9 rfl ?_
      refine xi_getR dX10_put_10 fgX10_80 mm0 rfl ?_
      refine xi_iload_n dX10_put_13 rfl ?_
      refine xe_iald (v := nI ((tp k0).1)) k0 dX10_put_14 mm18 (by decide) rfl (by omega) (hNT k0 (by omega)).1 ?_
      refine xn_if_ne ((tp k0).1) 25 dX10_put_15 (by decide) rfl (by omega) (fun h15 => ?_) (fun z => absurd z (by omega))
      refine xi_aload_n dX10_put_25 rfl ?_
      refine xi_getR dX10_put_26 fgX10_80 mm0 rfl ?_
      refine xi_iload_n dX10_put_29 rfl ?_
      refine xe_iald (v := nI ((tp k0).1)) k0 dX10_put_30 mm18 (by decide) rfl (by omega) (hNT k0 (by omega)).1 ?_
      refine xi_iconst (v := 5) dX10_put_31 rfl ?_
      refine xat 32 rfl ?_
      refine xn_icmp_ne ((tp k0).1) 5 42 dX10_put_32 (by decide) rfl rfl (by omega) (by omega) (fun h32 => ?_) (fun z => absurd z (by omega))
      refine xi_iload_n dX10_put_42 rfl ?_
      refine xi_iconst (v := 0) dX10_put_43 rfl ?_
      refine xi_aload_n dX10_put_44 rfl ?_
      refine xi_getR dX10_put_45 fgX10_83 mm0 rfl ?_
      refine xi_iload_n dX10_put_48 rfl ?_
      refine xe_iald (v := nI ((tp k0).2.1)) k0 dX10_put_49 mm19 (by decide) rfl (by omega) ((hNT k0 (by omega)).2.1 (by omega) (by omega)).1 ?_
      refine xi_iconst (v := 1) dX10_put_50 rfl ?_
      refine xi_isub dX10_put_51 ?_
      refine xi_callS [.int x1, .int 0, .int (nI ((tp k0).2.1) - 1)] [] dX10_put_52 zX10_in mlX10_137 rfl rfl rfl (Nat.le_of_ble_eq_true rfl) (Nat.le_of_ble_eq_true rfl) ⟨by decide, by decide⟩ ?_
      refine n_in1F (n := ((tp k0).2.1)) (by omega) hc1 ?_
      show WP _ _ 55 _ [.int (xb false)] _ _
      refine xb_if_ne false 65 dX10_put_55 (by decide) rfl (fun z => absurd z (by decide)) (fun _ => ?_)
      refine xi_aload_n dX10_put_58 rfl ?_
      refine xi_bipush (v := (-13)) dX10_put_59 (by decide) ?_
      refine xi_callV [.int (-13)] [] dX10_put_61 zX10_host mlX10_293 mm0 rfl rfl rfl rfl rfl (Nat.le_of_ble_eq_true rfl) (Nat.le_of_ble_eq_true rfl) ⟨by decide, by decide⟩ ?_
      refine o_host (x := (-13)) hhr ?_
      show WP _ _ 64 _ [.int (-13)] _ _
      refine xi_iret (v := (-13)) dX10_put_64 rfl ?_
      simp only [st_put, ec0] at h
      rw [if_neg (by omega), if_neg (by omega), ec1] at h
      exact h _ (RepM_ref hC)
    refine xi_iload_n dX10_put_0 rfl ?_
    refine xi_callS [.int (nI k0)] [] dX10_put_1 zX10_isTape mlX10_290 rfl rfl rfl (Nat.le_of_ble_eq_true rfl) (Nat.le_of_ble_eq_true rfl) ⟨by decide, by decide⟩ ?_
    refine n_isTpT (k := k0) (by omega) ?_
    show WP _ _ 4 _ [.int (xb true)] _ _
    refine xb_if_ne true 9 dX10_put_4 (by decide) rfl (fun _ => ?_) (fun z => absurd z (by decide))
    refine xi_aload_n dX10_put_9 rfl ?_
    refine xi_getR dX10_put_10 fgX10_80 mm0 rfl ?_
    refine xi_iload_n dX10_put_13 rfl ?_
    refine xe_iald (v := nI ((tp k0).1)) k0 dX10_put_14 mm18 (by decide) rfl (by omega) (hNT k0 (by omega)).1 ?_
    refine xn_if_ne ((tp k0).1) 25 dX10_put_15 (by decide) rfl (by omega) (fun h15 => ?_) (fun z => absurd z (by omega))
    refine xi_aload_n dX10_put_25 rfl ?_
    refine xi_getR dX10_put_26 fgX10_80 mm0 rfl ?_
    refine xi_iload_n dX10_put_29 rfl ?_
    refine xe_iald (v := nI ((tp k0).1)) k0 dX10_put_30 mm18 (by decide) rfl (by omega) (hNT k0 (by omega)).1 ?_
    refine xi_iconst (v := 5) dX10_put_31 rfl ?_
    refine xat 32 rfl ?_
    refine xn_icmp_ne ((tp k0).1) 5 42 dX10_put_32 (by decide) rfl rfl (by omega) (by omega) (fun h32 => ?_) (fun z => absurd z (by omega))
    refine xi_iload_n dX10_put_42 rfl ?_
    refine xi_iconst (v := 0) dX10_put_43 rfl ?_
    refine xi_aload_n dX10_put_44 rfl ?_
    refine xi_getR dX10_put_45 fgX10_83 mm0 rfl ?_
    refine xi_iload_n dX10_put_48 rfl ?_
    refine xe_iald (v := nI ((tp k0).2.1)) k0 dX10_put_49 mm19 (by decide) rfl (by omega) ((hNT k0 (by omega)).2.1 (by omega) (by omega)).1 ?_
    refine xi_iconst (v := 1) dX10_put_50 rfl ?_
    refine xi_isub dX10_put_51 ?_
    refine xi_callS [.int (nI k1), .int 0, .int (nI ((tp k0).2.1) - 1)] [] dX10_put_52 zX10_in mlX10_137 rfl rfl rfl (Nat.le_of_ble_eq_true rfl) (Nat.le_of_ble_eq_true rfl) ⟨by decide, by decide⟩ ?_
    refine n_in1T (k := k1) (n := ((tp k0).2.1)) (by omega) (by omega) ?_
    show WP _ _ 55 _ [.int (xb true)] _ _
    refine xb_if_ne true 65 dX10_put_55 (by decide) rfl (fun _ => ?_) (fun z => absurd z (by decide))
    refine xi_aload_n dX10_put_65 rfl ?_
    refine xi_getR dX10_put_66 fgX10_89 mm0 rfl ?_
    refine xi_bipush (v := 100) dX10_put_69 (by decide) ?_
    refine xi_iload_n dX10_put_71 rfl ?_
    refine xe_imul dX10_put_72 (v := nI (100 * k0)) (pk_mul 100 k0) ?_
    refine xi_iload_n dX10_put_73 rfl ?_
    refine xe_iadd dX10_put_74 (v := nI (100 * k0 + k1)) (nI_add (100 * k0) k1) ?_
    refine xi_aload_n dX10_put_75 rfl ?_
    refine xi_getR dX10_put_76 fgX10_80 mm0 rfl ?_
    refine xi_iload_n dX10_put_79 rfl ?_
    refine xat 80 rfl ?_
    refine xe_iald (v := nI ((tp k0).1)) k0 dX10_put_80 mm18 (by decide) rfl (by omega) (hNT k0 (by omega)).1 ?_
    refine xi_lload_n dX10_put_81 rfl ?_
    refine xi_callS [.int (nI ((tp k0).1)), .long x2] [.int (nI (100 * k0 + k1)), .ref 21] dX10_put_82 zX10_narrow mlX10_296 rfl rfl rfl (Nat.le_of_ble_eq_true rfl) (Nat.le_of_ble_eq_true rfl) ⟨by decide, by decide⟩ ?_
    refine o_nar (s := (tp k0).1) (by omega) ?_
    show WP _ _ 85 _ [.long (mnar (tp k0).1 x2), .int (nI (100 * k0 + k1)), .ref 21] _ _
    refine xe_last (100 * k0 + k1) dX10_put_85 mm21 (by decide) rfl (by omega) ?_
    refine xi_iconst (v := 1) dX10_put_86 rfl ?_
    refine xi_iret (v := 1) dX10_put_87 rfl ?_
    simp only [st_put, ec0] at h
    rw [if_neg (by omega), if_neg (by omega)] at h
    simp only [ec1] at h
    have q0 := hNT k0 hk0
    refine h _ (RepM_tp hX hC hk0 (Ft.xj (by omega) (by omega)) ⟨q0.1, fun q1 q2 => ⟨(q0.2.1 q1 q2).1, fun n hn => ?_⟩, fun q => absurd q (show ¬ (tp k0).1 = 5 by omega)⟩)
    rw [xj_s]
    show _ = va_up (tp k0).2.2.2.1 k1 _ n
    by_cases e : n = k1
    · rw [e, updL_s, up_s]
    · rw [updL_n (by omega), up_n e]; exact (q0.2.1 q1 q2).2 n hn

set_option maxHeartbeats 4000000 in
set_option maxRecDepth 100000 in
theorem mo_kept {X : xX} {M : xM} {Q : Option Value → xM → Prop} (hX : wX X) (hC : RepM X M) (x0 : Int32) (x1 : Int32) (h : ∀ M2, RepM (st_kept X x0 x1).2 M2 → Q (some (.int (st_kept X x0 x1).1)) M2) : WP shM mX10_kept 0 [some (.ref 0), some (.int x0), some (.int x1)] [] M Q := by
  obtain ⟨G, S0, now, late, risk, A, L, sq, nl, rf, hr, lg, w, tp⟩ := X
  obtain ⟨hW, hw0, wn, wl, wr, wA_, wsq, wnl, wmo, wtk, wwt, wtp, wO0, wB0⟩ := id hX
  obtain ⟨b1, b2, b3, b4, b5, b6, b7, b8, b9, wmap, wlink, wk0, wk1, b10, b11, wword⟩ := id hW
  have nb : nl ≤ 2000 := by rw [wnl]; exact mcnt_le 2000
  obtain ⟨hG, hNS, hNA, hNL, hNH, hNE, hNQ, hNW, hNT, hNM⟩ := id hC
  obtain ⟨hno, hla, hri, hnl, hrf, hhr⟩ := id hNM
  obtain ⟨s, es⟩ : ∃ s, s = 112 * now := ⟨_, rfl⟩
  have hs : s ≤ 56000 := by omega
  have hS : RM G (Zf G A S0 now) M s := by rw [es]; exact hNS.1 now (Nat.le_refl _)
  have hw : wS G (Zf G A S0 now) := wS_Zf hW hw0 now
  have wtq : ∀ d, (tp d).1 ≤ 5 ∧ (tp d).2.1 ≤ 100 ∧ (1 ≤ (tp d).1 ∧ (tp d).1 ≤ 4 → (tp d).2.1 ≤ 80) := fun d => ⟨(wtp d).1, (wtp d).2.1, (wtp d).2.2.2⟩
  rcases xix_cases x0 (n := 6) (by omega) with ⟨ec0, hc0⟩ | ⟨k0, hk0, rfl, ec0⟩
  · skip
    refine xi_iload_n dX10_kept_0 rfl ?_
    refine xi_callS [.int x0] [] dX10_kept_1 zX10_isTape mlX10_290 rfl rfl rfl (Nat.le_of_ble_eq_true rfl) (Nat.le_of_ble_eq_true rfl) ⟨by decide, by decide⟩ ?_
    refine n_isTpF hc0 ?_
    show WP _ _ 4 _ [.int (xb false)] _ _
    refine xb_if_ne false 9 dX10_kept_4 (by decide) rfl (fun z => absurd z (by decide)) (fun _ => ?_)
    refine xi_iconst (v := (-1)) dX10_kept_7 rfl ?_
    refine xi_iret (v := (-1)) dX10_kept_8 rfl ?_
    have e : st_kept (G, S0, now, late, risk, A, L, sq, nl, rf, hr, lg, w, tp) x0 x1 = (-1, (G, S0, now, late, risk, A, L, sq, nl, rf, hr, lg, w, tp)) := by simp only [st_kept, ec0]
    rw [e] at h
    exact h M hC
  have z0 := wtq k0
  rcases (show ((tp k0).1 = 0) ∨ (¬ (tp k0).1 = 0 ∧ ¬ (tp k0).1 = 5) ∨ ((tp k0).1 = 5) by omega) with hs1 | hs1 | hs1
  · skip
    rcases xix_cases x1 (n := (tp k0).2.1) (by omega) with ⟨ec1, hc1⟩ | ⟨k1, hk1, rfl, ec1⟩
    · skip
      refine xi_iload_n dX10_kept_0 rfl ?_
      refine xi_callS [.int (nI k0)] [] dX10_kept_1 zX10_isTape mlX10_290 rfl rfl rfl (Nat.le_of_ble_eq_true rfl) (Nat.le_of_ble_eq_true rfl) ⟨by decide, by decide⟩ ?_
      refine n_isTpT (k := k0) (by omega) ?_
      show WP _ _ 4 _ [.int (xb true)] _ _
      refine xb_if_ne true 9 dX10_kept_4 (by decide) rfl (fun _ => ?_) (fun z => absurd z (by decide))
      refine xi_aload_n dX10_kept_9 rfl ?_
      refine xi_getR dX10_kept_10 fgX10_80 mm0 rfl ?_
      refine xi_iload_n dX10_kept_13 rfl ?_
      refine xe_iald (v := nI ((tp k0).1)) k0 dX10_kept_14 mm18 (by decide) rfl (by omega) (hNT k0 (by omega)).1 ?_
      refine xn_if_ne ((tp k0).1) 25 dX10_kept_15 (by decide) rfl (by omega) (fun z => absurd z (by omega)) (fun h15 => ?_)
      refine xi_aload_n dX10_kept_18 rfl ?_
      refine xi_bipush (v := (-11)) dX10_kept_19 (by decide) ?_
      refine xi_callV [.int (-11)] [] dX10_kept_21 zX10_host mlX10_293 mm0 rfl rfl rfl rfl rfl (Nat.le_of_ble_eq_true rfl) (Nat.le_of_ble_eq_true rfl) ⟨by decide, by decide⟩ ?_
      refine o_host (x := (-11)) hhr ?_
      show WP _ _ 24 _ [.int (-11)] _ _
      refine xi_iret (v := (-11)) dX10_kept_24 rfl ?_
      simp only [st_kept, ec0] at h
      rw [if_pos hs1] at h
      exact h _ (RepM_ref hC)
    refine xi_iload_n dX10_kept_0 rfl ?_
    refine xi_callS [.int (nI k0)] [] dX10_kept_1 zX10_isTape mlX10_290 rfl rfl rfl (Nat.le_of_ble_eq_true rfl) (Nat.le_of_ble_eq_true rfl) ⟨by decide, by decide⟩ ?_
    refine n_isTpT (k := k0) (by omega) ?_
    show WP _ _ 4 _ [.int (xb true)] _ _
    refine xb_if_ne true 9 dX10_kept_4 (by decide) rfl (fun _ => ?_) (fun z => absurd z (by decide))
    refine xi_aload_n dX10_kept_9 rfl ?_
    refine xi_getR dX10_kept_10 fgX10_80 mm0 rfl ?_
    refine xi_iload_n dX10_kept_13 rfl ?_
    refine xe_iald (v := nI ((tp k0).1)) k0 dX10_kept_14 mm18 (by decide) rfl (by omega) (hNT k0 (by omega)).1 ?_
    refine xn_if_ne ((tp k0).1) 25 dX10_kept_15 (by decide) rfl (by omega) (fun z => absurd z (by omega)) (fun h15 => ?_)
    refine xi_aload_n dX10_kept_18 rfl ?_
    refine xi_bipush (v := (-11)) dX10_kept_19 (by decide) ?_
    refine xi_callV [.int (-11)] [] dX10_kept_21 zX10_host mlX10_293 mm0 rfl rfl rfl rfl rfl (Nat.le_of_ble_eq_true rfl) (Nat.le_of_ble_eq_true rfl) ⟨by decide, by decide⟩ ?_
    refine o_host (x := (-11)) hhr ?_
    show WP _ _ 24 _ [.int (-11)] _ _
    refine xi_iret (v := (-11)) dX10_kept_24 rfl ?_
    simp only [st_kept, ec0] at h
    rw [if_pos hs1] at h
    exact h _ (RepM_ref hC)
  · skip
    rcases xix_cases x1 (n := (tp k0).2.1) (by omega) with ⟨ec1, hc1⟩ | ⟨k1, hk1, rfl, ec1⟩
    · skip
      refine xi_iload_n dX10_kept_0 rfl ?_
      refine xi_callS [.int (nI k0)] [] dX10_kept_1 zX10_isTape mlX10_290 rfl rfl rfl (Nat.le_of_ble_eq_true rfl) (Nat.le_of_ble_eq_true rfl) ⟨by decide, by decide⟩ ?_
      refine n_isTpT (k := k0) (by omega) ?_
      show WP _ _ 4 _ [.int (xb true)] _ _
      refine xb_if_ne true 9 dX10_kept_4 (by decide) rfl (fun _ => ?_) (fun z => absurd z (by decide))
      refine xi_aload_n dX10_kept_9 rfl ?_
      refine xi_getR dX10_kept_10 fgX10_80 mm0 rfl ?_
      refine xi_iload_n dX10_kept_13 rfl ?_
      refine xe_iald (v := nI ((tp k0).1)) k0 dX10_kept_14 mm18 (by decide) rfl (by omega) (hNT k0 (by omega)).1 ?_
      refine xn_if_ne ((tp k0).1) 25 dX10_kept_15 (by decide) rfl (by omega) (fun h15 => ?_) (fun z => absurd z (by omega))
      refine xi_aload_n dX10_kept_25 rfl ?_
      refine xi_getR dX10_kept_26 fgX10_80 mm0 rfl ?_
      refine xi_iload_n dX10_kept_29 rfl ?_
      refine xe_iald (v := nI ((tp k0).1)) k0 dX10_kept_30 mm18 (by decide) rfl (by omega) (hNT k0 (by omega)).1 ?_
      refine xi_iconst (v := 5) dX10_kept_31 rfl ?_
      refine xat 32 rfl ?_
      refine xn_icmp_ge ((tp k0).1) 5 42 dX10_kept_32 (by decide) rfl rfl (by omega) (by omega) (fun z => absurd z (by omega)) (fun h32 => ?_)
      refine xi_aload_n dX10_kept_35 rfl ?_
      refine xi_bipush (v := (-12)) dX10_kept_36 (by decide) ?_
      refine xi_callV [.int (-12)] [] dX10_kept_38 zX10_host mlX10_293 mm0 rfl rfl rfl rfl rfl (Nat.le_of_ble_eq_true rfl) (Nat.le_of_ble_eq_true rfl) ⟨by decide, by decide⟩ ?_
      refine o_host (x := (-12)) hhr ?_
      show WP _ _ 41 _ [.int (-12)] _ _
      refine xi_iret (v := (-12)) dX10_kept_41 rfl ?_
      simp only [st_kept, ec0] at h
      rw [if_neg hs1.1, if_pos hs1.2] at h
      exact h _ (RepM_ref hC)
    refine xi_iload_n dX10_kept_0 rfl ?_
    refine xi_callS [.int (nI k0)] [] dX10_kept_1 zX10_isTape mlX10_290 rfl rfl rfl (Nat.le_of_ble_eq_true rfl) (Nat.le_of_ble_eq_true rfl) ⟨by decide, by decide⟩ ?_
    refine n_isTpT (k := k0) (by omega) ?_
    show WP _ _ 4 _ [.int (xb true)] _ _
    refine xb_if_ne true 9 dX10_kept_4 (by decide) rfl (fun _ => ?_) (fun z => absurd z (by decide))
    refine xi_aload_n dX10_kept_9 rfl ?_
    refine xi_getR dX10_kept_10 fgX10_80 mm0 rfl ?_
    refine xi_iload_n dX10_kept_13 rfl ?_
    refine xe_iald (v := nI ((tp k0).1)) k0 dX10_kept_14 mm18 (by decide) rfl (by omega) (hNT k0 (by omega)).1 ?_
    refine xn_if_ne ((tp k0).1) 25 dX10_kept_15 (by decide) rfl (by omega) (fun h15 => ?_) (fun z => absurd z (by omega))
    refine xi_aload_n dX10_kept_25 rfl ?_
    refine xi_getR dX10_kept_26 fgX10_80 mm0 rfl ?_
    refine xi_iload_n dX10_kept_29 rfl ?_
    refine xe_iald (v := nI ((tp k0).1)) k0 dX10_kept_30 mm18 (by decide) rfl (by omega) (hNT k0 (by omega)).1 ?_
    refine xi_iconst (v := 5) dX10_kept_31 rfl ?_
    refine xat 32 rfl ?_
    refine xn_icmp_ge ((tp k0).1) 5 42 dX10_kept_32 (by decide) rfl rfl (by omega) (by omega) (fun z => absurd z (by omega)) (fun h32 => ?_)
    refine xi_aload_n dX10_kept_35 rfl ?_
    refine xi_bipush (v := (-12)) dX10_kept_36 (by decide) ?_
    refine xi_callV [.int (-12)] [] dX10_kept_38 zX10_host mlX10_293 mm0 rfl rfl rfl rfl rfl (Nat.le_of_ble_eq_true rfl) (Nat.le_of_ble_eq_true rfl) ⟨by decide, by decide⟩ ?_
    refine o_host (x := (-12)) hhr ?_
    show WP _ _ 41 _ [.int (-12)] _ _
    refine xi_iret (v := (-12)) dX10_kept_41 rfl ?_
    simp only [st_kept, ec0] at h
    rw [if_neg hs1.1, if_pos hs1.2] at h
    exact h _ (RepM_ref hC)
  · skip
    rcases xix_cases x1 (n := (tp k0).2.1) (by omega) with ⟨ec1, hc1⟩ | ⟨k1, hk1, rfl, ec1⟩
    · skip
      refine xi_iload_n dX10_kept_0 rfl ?_
      refine xi_callS [.int (nI k0)] [] dX10_kept_1 zX10_isTape mlX10_290 rfl rfl rfl (Nat.le_of_ble_eq_true rfl) (Nat.le_of_ble_eq_true rfl) ⟨by decide, by decide⟩ ?_
      refine n_isTpT (k := k0) (by omega) ?_
      show WP _ _ 4 _ [.int (xb true)] _ _
      refine xb_if_ne true 9 dX10_kept_4 (by decide) rfl (fun _ => ?_) (fun z => absurd z (by decide))
      refine xi_aload_n dX10_kept_9 rfl ?_
      refine xi_getR dX10_kept_10 fgX10_80 mm0 rfl ?_
      refine xi_iload_n dX10_kept_13 rfl ?_
      refine xe_iald (v := nI ((tp k0).1)) k0 dX10_kept_14 mm18 (by decide) rfl (by omega) (hNT k0 (by omega)).1 ?_
      refine xn_if_ne ((tp k0).1) 25 dX10_kept_15 (by decide) rfl (by omega) (fun h15 => ?_) (fun z => absurd z (by omega))
      refine xi_aload_n dX10_kept_25 rfl ?_
      refine xi_getR dX10_kept_26 fgX10_80 mm0 rfl ?_
      refine xi_iload_n dX10_kept_29 rfl ?_
      refine xe_iald (v := nI ((tp k0).1)) k0 dX10_kept_30 mm18 (by decide) rfl (by omega) (hNT k0 (by omega)).1 ?_
      refine xi_iconst (v := 5) dX10_kept_31 rfl ?_
      refine xat 32 rfl ?_
      refine xn_icmp_ge ((tp k0).1) 5 42 dX10_kept_32 (by decide) rfl rfl (by omega) (by omega) (fun h32 => ?_) (fun z => absurd z (by omega))
      refine xi_iload_n dX10_kept_42 rfl ?_
      refine xi_iconst (v := 0) dX10_kept_43 rfl ?_
      refine xi_aload_n dX10_kept_44 rfl ?_
      refine xi_getR dX10_kept_45 fgX10_86 mm0 rfl ?_
      refine xi_iload_n dX10_kept_48 rfl ?_
      refine xe_iald (v := nI ((tp k0).2.1)) k0 dX10_kept_49 mm20 (by decide) rfl (by omega) ((hNT k0 (by omega)).2.2 (by omega)).2.1 ?_
      refine xi_iconst (v := 1) dX10_kept_50 rfl ?_
      refine xi_isub dX10_kept_51 ?_
      refine xi_callS [.int x1, .int 0, .int (nI ((tp k0).2.1) - 1)] [] dX10_kept_52 zX10_in mlX10_137 rfl rfl rfl (Nat.le_of_ble_eq_true rfl) (Nat.le_of_ble_eq_true rfl) ⟨by decide, by decide⟩ ?_
      refine n_in1F (n := ((tp k0).2.1)) (by omega) hc1 ?_
      show WP _ _ 55 _ [.int (xb false)] _ _
      refine xb_if_eq false 73 dX10_kept_55 (by decide) rfl (fun _ => ?_) (fun z => absurd z (by decide))
      refine xi_aload_n dX10_kept_73 rfl ?_
      refine xi_bipush (v := (-13)) dX10_kept_74 (by decide) ?_
      refine xi_callV [.int (-13)] [] dX10_kept_76 zX10_host mlX10_293 mm0 rfl rfl rfl rfl rfl (Nat.le_of_ble_eq_true rfl) (Nat.le_of_ble_eq_true rfl) ⟨by decide, by decide⟩ ?_
      refine o_host (x := (-13)) hhr ?_
      show WP _ _ 79 _ [.int (-13)] _ _
      refine xi_iret (v := (-13)) dX10_kept_79 rfl ?_
      simp only [st_kept, ec0] at h
      rw [if_neg (by omega), if_neg (by omega), ec1] at h
      exact h _ (RepM_ref hC)
    refine xi_iload_n dX10_kept_0 rfl ?_
    refine xi_callS [.int (nI k0)] [] dX10_kept_1 zX10_isTape mlX10_290 rfl rfl rfl (Nat.le_of_ble_eq_true rfl) (Nat.le_of_ble_eq_true rfl) ⟨by decide, by decide⟩ ?_
    refine n_isTpT (k := k0) (by omega) ?_
    show WP _ _ 4 _ [.int (xb true)] _ _
    refine xb_if_ne true 9 dX10_kept_4 (by decide) rfl (fun _ => ?_) (fun z => absurd z (by decide))
    refine xi_aload_n dX10_kept_9 rfl ?_
    refine xi_getR dX10_kept_10 fgX10_80 mm0 rfl ?_
    refine xi_iload_n dX10_kept_13 rfl ?_
    refine xe_iald (v := nI ((tp k0).1)) k0 dX10_kept_14 mm18 (by decide) rfl (by omega) (hNT k0 (by omega)).1 ?_
    refine xn_if_ne ((tp k0).1) 25 dX10_kept_15 (by decide) rfl (by omega) (fun h15 => ?_) (fun z => absurd z (by omega))
    refine xi_aload_n dX10_kept_25 rfl ?_
    refine xi_getR dX10_kept_26 fgX10_80 mm0 rfl ?_
    refine xi_iload_n dX10_kept_29 rfl ?_
    refine xe_iald (v := nI ((tp k0).1)) k0 dX10_kept_30 mm18 (by decide) rfl (by omega) (hNT k0 (by omega)).1 ?_
    refine xi_iconst (v := 5) dX10_kept_31 rfl ?_
    refine xat 32 rfl ?_
    refine xn_icmp_ge ((tp k0).1) 5 42 dX10_kept_32 (by decide) rfl rfl (by omega) (by omega) (fun h32 => ?_) (fun z => absurd z (by omega))
    refine xi_iload_n dX10_kept_42 rfl ?_
    refine xi_iconst (v := 0) dX10_kept_43 rfl ?_
    refine xi_aload_n dX10_kept_44 rfl ?_
    refine xi_getR dX10_kept_45 fgX10_86 mm0 rfl ?_
    refine xi_iload_n dX10_kept_48 rfl ?_
    refine xe_iald (v := nI ((tp k0).2.1)) k0 dX10_kept_49 mm20 (by decide) rfl (by omega) ((hNT k0 (by omega)).2.2 (by omega)).2.1 ?_
    refine xi_iconst (v := 1) dX10_kept_50 rfl ?_
    refine xi_isub dX10_kept_51 ?_
    refine xi_callS [.int (nI k1), .int 0, .int (nI ((tp k0).2.1) - 1)] [] dX10_kept_52 zX10_in mlX10_137 rfl rfl rfl (Nat.le_of_ble_eq_true rfl) (Nat.le_of_ble_eq_true rfl) ⟨by decide, by decide⟩ ?_
    refine n_in1T (k := k1) (n := ((tp k0).2.1)) (by omega) (by omega) ?_
    show WP _ _ 55 _ [.int (xb true)] _ _
    refine xb_if_eq true 73 dX10_kept_55 (by decide) rfl (fun z => absurd z (by decide)) (fun _ => ?_)
    refine xi_aload_n dX10_kept_58 rfl ?_
    refine xi_getR dX10_kept_59 fgX10_89 mm0 rfl ?_
    refine xi_bipush (v := 100) dX10_kept_62 (by decide) ?_
    refine xi_iload_n dX10_kept_64 rfl ?_
    refine xe_imul dX10_kept_65 (v := nI (100 * k0)) (pk_mul 100 k0) ?_
    refine xi_iload_n dX10_kept_66 rfl ?_
    refine xe_iadd dX10_kept_67 (v := nI (100 * k0 + k1)) (nI_add (100 * k0) k1) ?_
    refine xe_lald (v := ((tp k0).2.2.2.2 k1).toInt64) (100 * k0 + k1) dX10_kept_68 mm21 (by decide) rfl (by omega) (((hNT k0 (by omega)).2.2 (by omega)).2.2 k1 (by omega)) ?_
    refine xi_l2i dX10_kept_69 ?_
    refine xtop (y := ((tp k0).2.2.2.2 k1)) (Int32.toInt32_toInt64 _) ?_
    refine xi_goto 79 dX10_kept_70 (by decide) ?_
    refine xi_iret (v := ((tp k0).2.2.2.2 k1)) dX10_kept_79 rfl ?_
    simp only [st_kept, ec0] at h
    rw [if_neg (by omega), if_neg (by omega), ec1] at h
    exact h M hC

set_option maxHeartbeats 4000000 in
set_option maxRecDepth 100000 in
theorem mo_toss {X : xX} {M : xM} {Q : Option Value → xM → Prop} (hX : wX X) (hC : RepM X M) (x0 : Int32) (h : ∀ M2, RepM (st_toss X x0).2 M2 → Q (some (.int (st_toss X x0).1)) M2) : WP shM mX10_toss 0 [some (.ref 0), some (.int x0)] [] M Q := by
  obtain ⟨G, S0, now, late, risk, A, L, sq, nl, rf, hr, lg, w, tp⟩ := X
  obtain ⟨hW, hw0, wn, wl, wr, wA_, wsq, wnl, wmo, wtk, wwt, wtp, wO0, wB0⟩ := id hX
  obtain ⟨b1, b2, b3, b4, b5, b6, b7, b8, b9, wmap, wlink, wk0, wk1, b10, b11, wword⟩ := id hW
  have nb : nl ≤ 2000 := by rw [wnl]; exact mcnt_le 2000
  obtain ⟨hG, hNS, hNA, hNL, hNH, hNE, hNQ, hNW, hNT, hNM⟩ := id hC
  obtain ⟨hno, hla, hri, hnl, hrf, hhr⟩ := id hNM
  obtain ⟨s, es⟩ : ∃ s, s = 112 * now := ⟨_, rfl⟩
  have hs : s ≤ 56000 := by omega
  have hS : RM G (Zf G A S0 now) M s := by rw [es]; exact hNS.1 now (Nat.le_refl _)
  have hw : wS G (Zf G A S0 now) := wS_Zf hW hw0 now
  have wtq : ∀ d, (tp d).1 ≤ 5 ∧ (tp d).2.1 ≤ 100 ∧ (1 ≤ (tp d).1 ∧ (tp d).1 ≤ 4 → (tp d).2.1 ≤ 80) := fun d => ⟨(wtp d).1, (wtp d).2.1, (wtp d).2.2.2⟩
  rcases xix_cases x0 (n := 6) (by omega) with ⟨ec0, hc0⟩ | ⟨k0, hk0, rfl, ec0⟩
  · skip
    refine xi_iload_n dX10_toss_0 rfl ?_
    refine xi_callS [.int x0] [] dX10_toss_1 zX10_isTape mlX10_290 rfl rfl rfl (Nat.le_of_ble_eq_true rfl) (Nat.le_of_ble_eq_true rfl) ⟨by decide, by decide⟩ ?_
    refine n_isTpF hc0 ?_
    show WP _ _ 4 _ [.int (xb false)] _ _
    refine xb_if_ne false 9 dX10_toss_4 (by decide) rfl (fun z => absurd z (by decide)) (fun _ => ?_)
    refine xi_iconst (v := (-1)) dX10_toss_7 rfl ?_
    refine xi_iret (v := (-1)) dX10_toss_8 rfl ?_
    have e : st_toss (G, S0, now, late, risk, A, L, sq, nl, rf, hr, lg, w, tp) x0 = (-1, (G, S0, now, late, risk, A, L, sq, nl, rf, hr, lg, w, tp)) := by simp only [st_toss, ec0]
    rw [e] at h
    exact h M hC
  have z0 := wtq k0
  have z3 := (wtp k0).2.2.1
  rcases (show ((tp k0).1 = 0) ∨ (¬ (tp k0).1 = 0 ∧ ¬ (tp k0).1 = 5) ∨ ((tp k0).1 = 5) by omega) with hs1 | hs1 | hs1
  · skip
    refine xi_iload_n dX10_toss_0 rfl ?_
    refine xi_callS [.int (nI k0)] [] dX10_toss_1 zX10_isTape mlX10_290 rfl rfl rfl (Nat.le_of_ble_eq_true rfl) (Nat.le_of_ble_eq_true rfl) ⟨by decide, by decide⟩ ?_
    refine n_isTpT (k := k0) (by omega) ?_
    show WP _ _ 4 _ [.int (xb true)] _ _
    refine xb_if_ne true 9 dX10_toss_4 (by decide) rfl (fun _ => ?_) (fun z => absurd z (by decide))
    refine xi_aload_n dX10_toss_9 rfl ?_
    refine xi_getR dX10_toss_10 fgX10_80 mm0 rfl ?_
    refine xi_iload_n dX10_toss_13 rfl ?_
    refine xe_iald (v := nI ((tp k0).1)) k0 dX10_toss_14 mm18 (by decide) rfl (by omega) (hNT k0 (by omega)).1 ?_
    refine xn_if_ne ((tp k0).1) 25 dX10_toss_15 (by decide) rfl (by omega) (fun z => absurd z (by omega)) (fun h15 => ?_)
    refine xi_aload_n dX10_toss_18 rfl ?_
    refine xi_bipush (v := (-11)) dX10_toss_19 (by decide) ?_
    refine xi_callV [.int (-11)] [] dX10_toss_21 zX10_host mlX10_293 mm0 rfl rfl rfl rfl rfl (Nat.le_of_ble_eq_true rfl) (Nat.le_of_ble_eq_true rfl) ⟨by decide, by decide⟩ ?_
    refine o_host (x := (-11)) hhr ?_
    show WP _ _ 24 _ [.int (-11)] _ _
    refine xi_iret (v := (-11)) dX10_toss_24 rfl ?_
    simp only [st_toss, ec0] at h
    rw [if_pos hs1] at h
    exact h _ (RepM_ref hC)
  · skip
    refine xi_iload_n dX10_toss_0 rfl ?_
    refine xi_callS [.int (nI k0)] [] dX10_toss_1 zX10_isTape mlX10_290 rfl rfl rfl (Nat.le_of_ble_eq_true rfl) (Nat.le_of_ble_eq_true rfl) ⟨by decide, by decide⟩ ?_
    refine n_isTpT (k := k0) (by omega) ?_
    show WP _ _ 4 _ [.int (xb true)] _ _
    refine xb_if_ne true 9 dX10_toss_4 (by decide) rfl (fun _ => ?_) (fun z => absurd z (by decide))
    refine xi_aload_n dX10_toss_9 rfl ?_
    refine xi_getR dX10_toss_10 fgX10_80 mm0 rfl ?_
    refine xi_iload_n dX10_toss_13 rfl ?_
    refine xe_iald (v := nI ((tp k0).1)) k0 dX10_toss_14 mm18 (by decide) rfl (by omega) (hNT k0 (by omega)).1 ?_
    refine xn_if_ne ((tp k0).1) 25 dX10_toss_15 (by decide) rfl (by omega) (fun h15 => ?_) (fun z => absurd z (by omega))
    refine xi_aload_n dX10_toss_25 rfl ?_
    refine xi_getR dX10_toss_26 fgX10_80 mm0 rfl ?_
    refine xi_iload_n dX10_toss_29 rfl ?_
    refine xe_iald (v := nI ((tp k0).1)) k0 dX10_toss_30 mm18 (by decide) rfl (by omega) (hNT k0 (by omega)).1 ?_
    refine xi_iconst (v := 5) dX10_toss_31 rfl ?_
    refine xat 32 rfl ?_
    refine xn_icmp_ge ((tp k0).1) 5 42 dX10_toss_32 (by decide) rfl rfl (by omega) (by omega) (fun z => absurd z (by omega)) (fun h32 => ?_)
    refine xi_aload_n dX10_toss_35 rfl ?_
    refine xi_bipush (v := (-12)) dX10_toss_36 (by decide) ?_
    refine xi_callV [.int (-12)] [] dX10_toss_38 zX10_host mlX10_293 mm0 rfl rfl rfl rfl rfl (Nat.le_of_ble_eq_true rfl) (Nat.le_of_ble_eq_true rfl) ⟨by decide, by decide⟩ ?_
    refine o_host (x := (-12)) hhr ?_
    show WP _ _ 41 _ [.int (-12)] _ _
    refine xi_iret (v := (-12)) dX10_toss_41 rfl ?_
    simp only [st_toss, ec0] at h
    rw [if_neg hs1.1, if_pos hs1.2] at h
    exact h _ (RepM_ref hC)
  · skip
    refine xi_iload_n dX10_toss_0 rfl ?_
    refine xi_callS [.int (nI k0)] [] dX10_toss_1 zX10_isTape mlX10_290 rfl rfl rfl (Nat.le_of_ble_eq_true rfl) (Nat.le_of_ble_eq_true rfl) ⟨by decide, by decide⟩ ?_
    refine n_isTpT (k := k0) (by omega) ?_
    show WP _ _ 4 _ [.int (xb true)] _ _
    refine xb_if_ne true 9 dX10_toss_4 (by decide) rfl (fun _ => ?_) (fun z => absurd z (by decide))
    refine xi_aload_n dX10_toss_9 rfl ?_
    refine xi_getR dX10_toss_10 fgX10_80 mm0 rfl ?_
    refine xi_iload_n dX10_toss_13 rfl ?_
    refine xe_iald (v := nI ((tp k0).1)) k0 dX10_toss_14 mm18 (by decide) rfl (by omega) (hNT k0 (by omega)).1 ?_
    refine xn_if_ne ((tp k0).1) 25 dX10_toss_15 (by decide) rfl (by omega) (fun h15 => ?_) (fun z => absurd z (by omega))
    refine xi_aload_n dX10_toss_25 rfl ?_
    refine xi_getR dX10_toss_26 fgX10_80 mm0 rfl ?_
    refine xi_iload_n dX10_toss_29 rfl ?_
    refine xe_iald (v := nI ((tp k0).1)) k0 dX10_toss_30 mm18 (by decide) rfl (by omega) (hNT k0 (by omega)).1 ?_
    refine xi_iconst (v := 5) dX10_toss_31 rfl ?_
    refine xat 32 rfl ?_
    refine xn_icmp_ge ((tp k0).1) 5 42 dX10_toss_32 (by decide) rfl rfl (by omega) (by omega) (fun h32 => ?_) (fun z => absurd z (by omega))
    refine xi_aload_n dX10_toss_42 rfl ?_
    refine xi_getR dX10_toss_43 fgX10_83 mm0 rfl ?_
    refine xi_iload_n dX10_toss_46 rfl ?_
    refine xe_iald (v := nI ((tp k0).2.2.1)) k0 dX10_toss_47 mm19 (by decide) rfl (by omega) ((hNT k0 (by omega)).2.2 (by omega)).1 ?_
    refine xn_if_ne ((tp k0).2.2.1) 60 dX10_toss_48 (by decide) rfl (by omega) (fun h48 => ?_) (fun h48 => ?_)
    · skip
      refine xi_aload_n dX10_toss_60 rfl ?_
      refine xi_getR dX10_toss_61 fgX10_83 mm0 rfl ?_
      refine xi_iload_n dX10_toss_64 rfl ?_
      refine xe_iald (v := nI ((tp k0).2.2.1)) k0 dX10_toss_65 mm19 (by decide) rfl (by omega) ((hNT k0 (by omega)).2.2 (by omega)).1 ?_
      refine xi_iret (v := nI ((tp k0).2.2.1)) dX10_toss_66 rfl ?_
      simp only [st_toss, ec0] at h
      rw [if_neg (by omega), if_neg (by omega), if_neg h48] at h
      exact h M hC
    · skip
      refine xi_aload_n dX10_toss_51 rfl ?_
      refine xi_bipush (v := (-15)) dX10_toss_52 (by decide) ?_
      refine xi_callV [.int (-15)] [] dX10_toss_54 zX10_host mlX10_293 mm0 rfl rfl rfl rfl rfl (Nat.le_of_ble_eq_true rfl) (Nat.le_of_ble_eq_true rfl) ⟨by decide, by decide⟩ ?_
      refine o_host (x := (-15)) hhr ?_
      show WP _ _ 57 _ [.int (-15)] _ _
      refine xi_goto 66 dX10_toss_57 (by decide) ?_
      refine xi_iret (v := (-15)) dX10_toss_66 rfl ?_
      simp only [st_toss, ec0] at h
      rw [if_neg (by omega), if_neg (by omega), if_pos h48] at h
      exact h _ (RepM_ref hC)

set_option maxHeartbeats 4000000 in
set_option maxRecDepth 100000 in
theorem nl_tape {Q : Option Value → xM → Prop} {d s n : Nat} (hd : d < 6) (hn : n ≤ 80) : ∀ (f i : Nat) (M : xM), i + f = n → (∀ j, j < i → M.2.2 21 (100 * d + j) = 0) → (∀ M2, Ft d M M2 → M2.2.1 = M.2.1 → (∀ j, j < n → M2.2.2 21 (100 * d + j) = 0) → Q (some (.int (nI n))) M2) → WP shM mX10_tape 52 [some (.ref 0), some (.int (nI d)), some (.int (nI s)), some (.int (nI n)), some (.int (nI i))] [] M Q := by
  intro f
  induction f with
  | zero =>
    intro i M hf hi h
    refine xi_iload dX10_tape_52 rfl ?_
    refine xi_iload_n dX10_tape_54 rfl ?_
    refine xn_icmp_ge i n 77 dX10_tape_55 (by decide) rfl rfl (by omega) (by omega) (fun h55 => ?_) (fun z => absurd z (by omega))
    refine xi_iload_n dX10_tape_77 rfl ?_
    refine xi_iret (v := nI n) dX10_tape_78 rfl ?_
    exact h M Ft.rf rfl (fun j hj => hi j (by omega))
  | succ f ih =>
    intro i M hf hi h
    refine xi_iload dX10_tape_52 rfl ?_
    refine xi_iload_n dX10_tape_54 rfl ?_
    refine xn_icmp_ge i n 77 dX10_tape_55 (by decide) rfl rfl (by omega) (by omega) (fun z => absurd z (by omega)) (fun h55 => ?_)
    refine xi_aload_n dX10_tape_58 rfl ?_
    refine xi_getR dX10_tape_59 fgX10_89 mm0 rfl ?_
    refine xi_bipush (v := 100) dX10_tape_62 (by decide) ?_
    refine xi_iload_n dX10_tape_64 rfl ?_
    refine xe_imul dX10_tape_65 (v := nI (100 * d)) (pk_mul 100 d) ?_
    refine xi_iload dX10_tape_66 rfl ?_
    refine xe_iadd dX10_tape_68 (v := nI (100 * d + i)) (nI_add (100 * d) i) ?_
    refine xi_lconst (v := 0) dX10_tape_69 rfl ?_
    refine xat 70 rfl ?_
    refine xe_last (100 * d + i) dX10_tape_70 mm21 (by decide) rfl (by omega) ?_
    generalize eM1 : (xj M 21 (vp_updL (M.2.2 21) (100 * d + i) 0)) = M1
    have F1 : Ft d M M1 := by rw [← eM1]; exact Ft.xj (by omega) (by omega)
    have a1 : M1.2.1 = M.2.1 := by rw [← eM1]; rfl
    have hi1 : ∀ j, j < i + 1 → M1.2.2 21 (100 * d + j) = 0 := by
      intro j hj
      rw [← eM1, xj_s]
      by_cases e : j = i
      · subst e; rw [updL_s]
      · rw [updL_n (by omega)]; exact hi j (by omega)
    refine xi_iinc (v := nI (i + 1)) (lv' := [some (.ref 0), some (.int (nI d)), some (.int (nI s)), some (.int (nI n)), some (.int (nI (i + 1)))]) dX10_tape_71 rfl (xinc i) (by decide) rfl ?_
    refine xi_goto 52 dX10_tape_74 (by decide) ?_
    exact ih (i + 1) M1 (by omega) hi1 (fun M2 F2 a2 z => h M2 (F1.tr F2) (a2.trans a1) z)

set_option maxHeartbeats 4000000 in
set_option maxRecDepth 100000 in
theorem mo_tape {X : xX} {M : xM} {Q : Option Value → xM → Prop} (hX : wX X) (hC : RepM X M) (x0 : Int32) (x1 : Int32) (x2 : Int32) (h : ∀ M2, RepM (st_tape X x0 x1 x2).2 M2 → Q (some (.int (st_tape X x0 x1 x2).1)) M2) : WP shM mX10_tape 0 [some (.ref 0), some (.int x0), some (.int x1), some (.int x2), none] [] M Q := by
  obtain ⟨G, S0, now, late, risk, A, L, sq, nl, rf, hr, lg, w, tp⟩ := X
  obtain ⟨hW, hw0, wn, wl, wr, wA_, wsq, wnl, wmo, wtk, wwt, wtp, wO0, wB0⟩ := id hX
  obtain ⟨b1, b2, b3, b4, b5, b6, b7, b8, b9, wmap, wlink, wk0, wk1, b10, b11, wword⟩ := id hW
  have nb : nl ≤ 2000 := by rw [wnl]; exact mcnt_le 2000
  obtain ⟨hG, hNS, hNA, hNL, hNH, hNE, hNQ, hNW, hNT, hNM⟩ := id hC
  obtain ⟨hno, hla, hri, hnl, hrf, hhr⟩ := id hNM
  obtain ⟨s, es⟩ : ∃ s, s = 112 * now := ⟨_, rfl⟩
  have hs : s ≤ 56000 := by omega
  have hS : RM G (Zf G A S0 now) M s := by rw [es]; exact hNS.1 now (Nat.le_refl _)
  have hw : wS G (Zf G A S0 now) := wS_Zf hW hw0 now
  rcases xix_cases x0 (n := 6) (by omega) with ⟨ec0, hc0⟩ | ⟨k0, hk0, rfl, ec0⟩
  · skip
    refine xi_iload_n dX10_tape_0 rfl ?_
    refine xi_callS [.int x0] [] dX10_tape_1 zX10_isTape mlX10_290 rfl rfl rfl (Nat.le_of_ble_eq_true rfl) (Nat.le_of_ble_eq_true rfl) ⟨by decide, by decide⟩ ?_
    refine n_isTpF hc0 ?_
    show WP _ _ 4 _ [.int (xb false)] _ _
    refine xb_if_eq false 22 dX10_tape_4 (by decide) rfl (fun _ => ?_) (fun z => absurd z (by decide))
    refine xi_iconst (v := (-1)) dX10_tape_22 rfl ?_
    refine xi_iret (v := (-1)) dX10_tape_23 rfl ?_
    have e : st_tape (G, S0, now, late, risk, A, L, sq, nl, rf, hr, lg, w, tp) x0 x1 x2 = (-1, (G, S0, now, late, risk, A, L, sq, nl, rf, hr, lg, w, tp)) := by simp only [st_tape, ec0]
    rw [e] at h
    exact h M hC
  rcases xrg_cases x1 (lo := 1) (hi := 4) (by omega) (by omega) with ⟨ec1, hc1⟩ | ⟨k1, hk1, hl1, rfl, ec1⟩
  · skip
    refine xi_iload_n dX10_tape_0 rfl ?_
    refine xi_callS [.int (nI k0)] [] dX10_tape_1 zX10_isTape mlX10_290 rfl rfl rfl (Nat.le_of_ble_eq_true rfl) (Nat.le_of_ble_eq_true rfl) ⟨by decide, by decide⟩ ?_
    refine n_isTpT (k := k0) (by omega) ?_
    show WP _ _ 4 _ [.int (xb true)] _ _
    refine xb_if_eq true 22 dX10_tape_4 (by decide) rfl (fun z => absurd z (by decide)) (fun _ => ?_)
    refine xi_iload_n dX10_tape_7 rfl ?_
    refine xi_iconst (v := 1) dX10_tape_8 rfl ?_
    refine xi_iconst (v := 4) dX10_tape_9 rfl ?_
    refine xi_callS [.int x1, .int 1, .int 4] [] dX10_tape_10 zX10_in mlX10_137 rfl rfl rfl (Nat.le_of_ble_eq_true rfl) (Nat.le_of_ble_eq_true rfl) ⟨by decide, by decide⟩ ?_
    refine n_inF (l := 1) (r := 4) hc1 ?_
    show WP _ _ 13 _ [.int (xb false)] _ _
    refine xb_if_eq false 22 dX10_tape_13 (by decide) rfl (fun _ => ?_) (fun z => absurd z (by decide))
    refine xi_iconst (v := (-1)) dX10_tape_22 rfl ?_
    refine xi_iret (v := (-1)) dX10_tape_23 rfl ?_
    have e : st_tape (G, S0, now, late, risk, A, L, sq, nl, rf, hr, lg, w, tp) (nI k0) x1 x2 = (-1, (G, S0, now, late, risk, A, L, sq, nl, rf, hr, lg, w, tp)) := by simp only [st_tape, ec0, ec1]
    rw [e] at h
    exact h M hC
  rcases xrg_cases x2 (lo := 0) (hi := 80) (by omega) (by omega) with ⟨ec2, hc2⟩ | ⟨k2, hk2, hl2, rfl, ec2⟩
  · rcases hc2 with hc2 | hc2
    · skip
      refine xi_iload_n dX10_tape_0 rfl ?_
      refine xi_callS [.int (nI k0)] [] dX10_tape_1 zX10_isTape mlX10_290 rfl rfl rfl (Nat.le_of_ble_eq_true rfl) (Nat.le_of_ble_eq_true rfl) ⟨by decide, by decide⟩ ?_
      refine n_isTpT (k := k0) (by omega) ?_
      show WP _ _ 4 _ [.int (xb true)] _ _
      refine xb_if_eq true 22 dX10_tape_4 (by decide) rfl (fun z => absurd z (by decide)) (fun _ => ?_)
      refine xi_iload_n dX10_tape_7 rfl ?_
      refine xi_iconst (v := 1) dX10_tape_8 rfl ?_
      refine xi_iconst (v := 4) dX10_tape_9 rfl ?_
      refine xi_callS [.int (nI k1), .int 1, .int 4] [] dX10_tape_10 zX10_in mlX10_137 rfl rfl rfl (Nat.le_of_ble_eq_true rfl) (Nat.le_of_ble_eq_true rfl) ⟨by decide, by decide⟩ ?_
      refine n_inT (k := k1) (l := 1) (r := 4) (by omega) (by omega) (by omega) ?_
      show WP _ _ 13 _ [.int (xb true)] _ _
      refine xb_if_eq true 22 dX10_tape_13 (by decide) rfl (fun z => absurd z (by decide)) (fun _ => ?_)
      refine xi_iload_n dX10_tape_16 rfl ?_
      refine xi_bipush (v := 80) dX10_tape_17 (by decide) ?_
      refine xi_icmp_le 24 dX10_tape_19 (by decide) (fun h19 => ?_) (fun h19 => ?_)
      · skip
        refine xi_iload_n dX10_tape_24 rfl ?_
        refine xi_if_ge 35 dX10_tape_25 (by decide) (fun h25 => ?_) (fun h25 => ?_)
        · exact absurd hc2 (Int32.not_lt.mpr h25)
        · skip
          refine xi_aload_n dX10_tape_28 rfl ?_
          refine xi_bipush (v := (-14)) dX10_tape_29 (by decide) ?_
          refine xi_callV [.int (-14)] [] dX10_tape_31 zX10_host mlX10_293 mm0 rfl rfl rfl rfl rfl (Nat.le_of_ble_eq_true rfl) (Nat.le_of_ble_eq_true rfl) ⟨by decide, by decide⟩ ?_
          refine o_host (x := (-14)) hhr ?_
          show WP _ _ 34 _ [.int (-14)] _ _
          refine xi_iret (v := (-14)) dX10_tape_34 rfl ?_
          simp only [st_tape, ec0, ec1] at h
          rw [if_neg (fun q => absurd (Int32.lt_trans q hc2) (by decide)), xrg_no (Or.inl hc2)] at h
          exact h _ (RepM_ref hC)
      · exact absurd (Int32.le_of_lt (Int32.lt_trans hc2 (by decide))) h19
    · skip
      refine xi_iload_n dX10_tape_0 rfl ?_
      refine xi_callS [.int (nI k0)] [] dX10_tape_1 zX10_isTape mlX10_290 rfl rfl rfl (Nat.le_of_ble_eq_true rfl) (Nat.le_of_ble_eq_true rfl) ⟨by decide, by decide⟩ ?_
      refine n_isTpT (k := k0) (by omega) ?_
      show WP _ _ 4 _ [.int (xb true)] _ _
      refine xb_if_eq true 22 dX10_tape_4 (by decide) rfl (fun z => absurd z (by decide)) (fun _ => ?_)
      refine xi_iload_n dX10_tape_7 rfl ?_
      refine xi_iconst (v := 1) dX10_tape_8 rfl ?_
      refine xi_iconst (v := 4) dX10_tape_9 rfl ?_
      refine xi_callS [.int (nI k1), .int 1, .int 4] [] dX10_tape_10 zX10_in mlX10_137 rfl rfl rfl (Nat.le_of_ble_eq_true rfl) (Nat.le_of_ble_eq_true rfl) ⟨by decide, by decide⟩ ?_
      refine n_inT (k := k1) (l := 1) (r := 4) (by omega) (by omega) (by omega) ?_
      show WP _ _ 13 _ [.int (xb true)] _ _
      refine xb_if_eq true 22 dX10_tape_13 (by decide) rfl (fun z => absurd z (by decide)) (fun _ => ?_)
      refine xi_iload_n dX10_tape_16 rfl ?_
      refine xi_bipush (v := 80) dX10_tape_17 (by decide) ?_
      refine xi_icmp_le 24 dX10_tape_19 (by decide) (fun h19 => ?_) (fun h19 => ?_)
      · exact absurd hc2 (Int32.not_lt.mpr h19)
      · skip
        refine xi_iconst (v := (-1)) dX10_tape_22 rfl ?_
        refine xi_iret (v := (-1)) dX10_tape_23 rfl ?_
        simp only [st_tape, ec0, ec1] at h
        rw [if_pos hc2] at h
        exact h M hC
  refine xi_iload_n dX10_tape_0 rfl ?_
  refine xi_callS [.int (nI k0)] [] dX10_tape_1 zX10_isTape mlX10_290 rfl rfl rfl (Nat.le_of_ble_eq_true rfl) (Nat.le_of_ble_eq_true rfl) ⟨by decide, by decide⟩ ?_
  refine n_isTpT (k := k0) (by omega) ?_
  show WP _ _ 4 _ [.int (xb true)] _ _
  refine xb_if_eq true 22 dX10_tape_4 (by decide) rfl (fun z => absurd z (by decide)) (fun _ => ?_)
  refine xi_iload_n dX10_tape_7 rfl ?_
  refine xi_iconst (v := 1) dX10_tape_8 rfl ?_
  refine xi_iconst (v := 4) dX10_tape_9 rfl ?_
  refine xi_callS [.int (nI k1), .int 1, .int 4] [] dX10_tape_10 zX10_in mlX10_137 rfl rfl rfl (Nat.le_of_ble_eq_true rfl) (Nat.le_of_ble_eq_true rfl) ⟨by decide, by decide⟩ ?_
  refine n_inT (k := k1) (l := 1) (r := 4) (by omega) (by omega) (by omega) ?_
  show WP _ _ 13 _ [.int (xb true)] _ _
  refine xb_if_eq true 22 dX10_tape_13 (by decide) rfl (fun z => absurd z (by decide)) (fun _ => ?_)
  refine xi_iload_n dX10_tape_16 rfl ?_
  refine xi_bipush (v := 80) dX10_tape_17 (by decide) ?_
  refine xn_icmp_le k2 80 24 dX10_tape_19 (by decide) rfl rfl (by omega) (by omega) (fun h19 => ?_) (fun z => absurd z (by omega))
  refine xi_iload_n dX10_tape_24 rfl ?_
  refine xn_if_ge k2 35 dX10_tape_25 (by decide) rfl (by omega) ?_
  refine xi_aload_n dX10_tape_35 rfl ?_
  refine xi_getR dX10_tape_36 fgX10_80 mm0 rfl ?_
  refine xi_iload_n dX10_tape_39 rfl ?_
  refine xi_iload_n dX10_tape_40 rfl ?_
  refine xe_iast k0 dX10_tape_41 mm18 (by decide) rfl (by omega) ?_
  refine xat 42 rfl ?_
  refine xi_aload_n dX10_tape_42 rfl ?_
  refine xi_getR dX10_tape_43 fgX10_83 mm0 rfl ?_
  refine xi_iload_n dX10_tape_46 rfl ?_
  refine xi_iload_n dX10_tape_47 rfl ?_
  refine xe_iast k0 dX10_tape_48 mm19 (by decide) rfl (by omega) ?_
  refine xi_iconst (v := 0) dX10_tape_49 rfl ?_
  refine xi_istore (lv' := [some (.ref 0), some (.int (nI k0)), some (.int (nI k1)), some (.int (nI k2)), some (.int 0)]) dX10_tape_50 (by decide) rfl ?_
  simp only [st_tape, ec0, ec1, ec2] at h
  rw [if_neg (nI_nlt hl2 (by omega))] at h
  generalize eM1 : (xa (xa M 18 (upd (M.2.1 18) k0 (nI k1))) 19 (upd ((xa M 18 (upd (M.2.1 18) k0 (nI k1))).2.1 19) k0 (nI k2))) = M1
  have F1 : Ft k0 M M1 := by rw [← eM1]; exact (Ft.xa (by omega) (by omega)).tr (Ft.xa (by omega) (by omega))
  have g18 : M1.2.1 18 k0 = nI k1 := by rw [← eM1, xa_n (by decide), xa_s, upd_s]
  have g19 : M1.2.1 19 k0 = nI k2 := by rw [← eM1, xa_s, upd_s]
  refine nl_tape hk0 (by omega) k2 0 M1 (by omega) (fun j hj => by omega) (fun M2 F2 a2 z => ?_)
  exact h M2 (RepM_tp hX hC hk0 (F1.tr F2) ⟨by rw [a2]; exact g18, fun q1 q2 => ⟨by rw [a2]; exact g19, z⟩, fun q => absurd q (show ¬ k1 = 5 by omega)⟩)

