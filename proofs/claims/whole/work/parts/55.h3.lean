set_option maxHeartbeats 4000000 in
set_option maxRecDepth 100000 in
theorem o_nearT {G : xG} {S0 : xS} {now late risk : Nat} {A : Nat → Nat} {L : Nat → Bool} {sq : Nat → Nat} {nl : Nat} {rf hr : Int32} {lg : xE2} {w : xw} {tp : Nat → xT} {M : xM} {Q : Option Value → xM → Prop} (hX : wX (G, S0, now, late, risk, A, L, sq, nl, rf, hr, lg, w, tp)) (hC : RepM (G, S0, now, late, risk, A, L, sq, nl, rf, hr, lg, w, tp) M) {k : Nat} (hk : k < now + 1) (h : Q (some (.int (xb (decide (now ≤ k + 8))))) M) : WP shM mX10_isNear 0 [some (.ref 0), some (.int (nI k))] [] M Q := by
  obtain ⟨hW, hw0, wn, wl, wr, wA_, wsq, wnl, wmo, wtk, wwt, wtp, wO0, wB0⟩ := id hX
  obtain ⟨b1, b2, b3, b4, b5, b6, b7, b8, b9, wmap, wlink, wk0, wk1, b10, b11, wword⟩ := id hW
  have nb : nl ≤ 2000 := by rw [wnl]; exact mcnt_le 2000
  obtain ⟨hG, hNS, hNA, hNL, hNH, hNE, hNQ, hNW, hNT, hNM⟩ := id hC
  obtain ⟨hno, hla, hri, hnl, hrf, hhr⟩ := id hNM
  obtain ⟨s, es⟩ : ∃ s, s = 112 * now := ⟨_, rfl⟩
  have hs : s ≤ 56000 := by omega
  have hS : RM G (Zf G A S0 now) M s := by rw [es]; exact hNS.1 now (Nat.le_refl _)
  have hw : wS G (Zf G A S0 now) := wS_Zf hW hw0 now
  refine xi_iload_n dX10_isNear_0 rfl ?_
  refine xn_if_lt k 26 dX10_isNear_1 (by decide) rfl (by omega) ?_
  refine xi_iload_n dX10_isNear_4 rfl ?_
  refine xi_aload_n dX10_isNear_5 rfl ?_
  refine xe_getI (v := nI now) dX10_isNear_6 fgX10_110 mm0 rfl hno ?_
  refine xi_bipush (v := 8) dX10_isNear_9 (by decide) ?_
  refine xi_isub dX10_isNear_11 ?_
  refine xi_aload_n dX10_isNear_12 rfl ?_
  refine xe_getI (v := nI now) dX10_isNear_13 fgX10_110 mm0 rfl hno ?_
  refine xi_callS [.int (nI k), .int (nI now - 8), .int (nI now)] [] dX10_isNear_16 zX10_in mlX10_137 rfl rfl rfl (Nat.le_of_ble_eq_true rfl) (Nat.le_of_ble_eq_true rfl) ⟨by decide, by decide⟩ ?_
  refine n_inS (k := k) (n := now) (c := 8) (r := now) (by omega) (by omega) (by omega) (by omega) ?_
  show WP _ _ 19 _ [.int (xb (decide (now ≤ k + 8 ∧ k ≤ now)))] _ _
  refine xb_if_eq (decide (now ≤ k + 8 ∧ k ≤ now)) 26 dX10_isNear_19 (by decide) rfl (fun h19 => ?_) (fun h19 => ?_)
  · skip
    refine xi_iconst (v := 0) dX10_isNear_26 rfl ?_
    refine xi_zret (v := 0) dX10_isNear_27 rfl (by decide) ?_
    have z := of_decide_eq_false h19
    rw [show decide (now ≤ k + 8) = false by simp; omega] at h
    exact h
  · skip
    refine xi_iconst (v := 1) dX10_isNear_22 rfl ?_
    refine xi_goto 27 dX10_isNear_23 (by decide) ?_
    refine xi_zret (v := 1) dX10_isNear_27 rfl (by decide) ?_
    have z := of_decide_eq_true h19
    rw [show decide (now ≤ k + 8) = true by simp; omega] at h
    exact h

set_option maxHeartbeats 4000000 in
set_option maxRecDepth 100000 in
theorem o_nearF {G : xG} {S0 : xS} {now late risk : Nat} {A : Nat → Nat} {L : Nat → Bool} {sq : Nat → Nat} {nl : Nat} {rf hr : Int32} {lg : xE2} {w : xw} {tp : Nat → xT} {M : xM} {Q : Option Value → xM → Prop} (hX : wX (G, S0, now, late, risk, A, L, sq, nl, rf, hr, lg, w, tp)) (hC : RepM (G, S0, now, late, risk, A, L, sq, nl, rf, hr, lg, w, tp) M) {x : Int32} (hc : x < 0 ∨ nI (now + 1) ≤ x) (h : Q (some (.int (xb false))) M) : WP shM mX10_isNear 0 [some (.ref 0), some (.int x)] [] M Q := by
  obtain ⟨hW, hw0, wn, wl, wr, wA_, wsq, wnl, wmo, wtk, wwt, wtp, wO0, wB0⟩ := id hX
  obtain ⟨b1, b2, b3, b4, b5, b6, b7, b8, b9, wmap, wlink, wk0, wk1, b10, b11, wword⟩ := id hW
  have nb : nl ≤ 2000 := by rw [wnl]; exact mcnt_le 2000
  obtain ⟨hG, hNS, hNA, hNL, hNH, hNE, hNQ, hNW, hNT, hNM⟩ := id hC
  obtain ⟨hno, hla, hri, hnl, hrf, hhr⟩ := id hNM
  obtain ⟨s, es⟩ : ∃ s, s = 112 * now := ⟨_, rfl⟩
  have hs : s ≤ 56000 := by omega
  have hS : RM G (Zf G A S0 now) M s := by rw [es]; exact hNS.1 now (Nat.le_refl _)
  have hw : wS G (Zf G A S0 now) := wS_Zf hW hw0 now
  refine xi_iload_n dX10_isNear_0 rfl ?_
  refine xi_if_lt 26 dX10_isNear_1 (by decide) (fun h1 => ?_) (fun h1 => ?_)
  · skip
    refine xi_iconst (v := 0) dX10_isNear_26 rfl ?_
    refine xi_zret (v := 0) dX10_isNear_27 rfl (by decide) ?_
    exact h
  · skip
    refine xi_iload_n dX10_isNear_4 rfl ?_
    refine xi_aload_n dX10_isNear_5 rfl ?_
    refine xe_getI (v := nI now) dX10_isNear_6 fgX10_110 mm0 rfl hno ?_
    refine xi_bipush (v := 8) dX10_isNear_9 (by decide) ?_
    refine xi_isub dX10_isNear_11 ?_
    refine xi_aload_n dX10_isNear_12 rfl ?_
    refine xe_getI (v := nI now) dX10_isNear_13 fgX10_110 mm0 rfl hno ?_
    refine xi_callS [.int x, .int (nI now - 8), .int (nI now)] [] dX10_isNear_16 zX10_in mlX10_137 rfl rfl rfl (Nat.le_of_ble_eq_true rfl) (Nat.le_of_ble_eq_true rfl) ⟨by decide, by decide⟩ ?_
    refine n_in ?_
    rw [decide_eq_false (fun q => hc.elim (fun z => absurd z h1) (fun z => absurd (Int32.le_trans z q.2) (nI_ge (by omega) (by omega))))]
    show WP _ _ 19 _ [.int (xb false)] _ _
    refine xb_if_eq false 26 dX10_isNear_19 (by decide) rfl (fun _ => ?_) (fun z => absurd z (by decide))
    refine xi_iconst (v := 0) dX10_isNear_26 rfl ?_
    refine xi_zret (v := 0) dX10_isNear_27 rfl (by decide) ?_
    exact h

set_option maxHeartbeats 4000000 in
set_option maxRecDepth 100000 in
theorem mo_body {X : xX} {M : xM} {Q : Option Value → xM → Prop} (hX : wX X) (hC : RepM X M) (x0 : Int32) (x1 : Int32) (h : Q (some (.int (a_body X x0 x1))) M) : WP shM mX10_body 0 [some (.ref 0), some (.int x0), some (.int x1), none] [] M Q := by
  obtain ⟨G, S0, now, late, risk, A, L, sq, nl, rf, hr, lg, w, tp⟩ := X
  obtain ⟨hW, hw0, wn, wl, wr, wA_, wsq, wnl, wmo, wtk, wwt, wtp, wO0, wB0⟩ := id hX
  obtain ⟨b1, b2, b3, b4, b5, b6, b7, b8, b9, wmap, wlink, wk0, wk1, b10, b11, wword⟩ := id hW
  have nb : nl ≤ 2000 := by rw [wnl]; exact mcnt_le 2000
  obtain ⟨hG, hNS, hNA, hNL, hNH, hNE, hNQ, hNW, hNT, hNM⟩ := id hC
  obtain ⟨hno, hla, hri, hnl, hrf, hhr⟩ := id hNM
  obtain ⟨s, es⟩ : ∃ s, s = 112 * now := ⟨_, rfl⟩
  have hs : s ≤ 56000 := by omega
  have hS : RM G (Zf G A S0 now) M s := by rw [es]; exact hNS.1 now (Nat.le_refl _)
  have hw : wS G (Zf G A S0 now) := wS_Zf hW hw0 now
  rcases xix_cases x0 (n := gP G) (by omega) with ⟨ec0, hc0⟩ | ⟨k0, hk0, rfl, ec0⟩
  · skip
    refine xi_aload_n dX10_body_0 rfl ?_
    refine xi_iload_n dX10_body_1 rfl ?_
    refine xi_callV [.int x0] [] dX10_body_2 zX10_isPlayer mlX10_272 mm0 rfl rfl rfl rfl rfl (Nat.le_of_ble_eq_true rfl) (Nat.le_of_ble_eq_true rfl) ⟨by decide, by decide⟩ ?_
    refine n_isPF hW hG hc0 ?_
    show WP _ _ 5 _ [.int (xb false)] _ _
    refine xb_if_eq false 18 dX10_body_5 (by decide) rfl (fun _ => ?_) (fun z => absurd z (by decide))
    refine xi_iconst (v := (-1)) dX10_body_18 rfl ?_
    refine xi_iret (v := (-1)) dX10_body_19 rfl ?_
    have e : a_body (G, S0, now, late, risk, A, L, sq, nl, rf, hr, lg, w, tp) x0 x1 = -1 := by simp only [a_body, ec0]
    rw [e] at h
    exact h
  rcases xix_cases x1 (n := 7) (by omega) with ⟨ec1, hc1⟩ | ⟨k1, hk1, rfl, ec1⟩
  · skip
    refine xi_aload_n dX10_body_0 rfl ?_
    refine xi_iload_n dX10_body_1 rfl ?_
    refine xi_callV [.int (nI k0)] [] dX10_body_2 zX10_isPlayer mlX10_272 mm0 rfl rfl rfl rfl rfl (Nat.le_of_ble_eq_true rfl) (Nat.le_of_ble_eq_true rfl) ⟨by decide, by decide⟩ ?_
    refine n_isPT hW hG (k := k0) (by omega) ?_
    show WP _ _ 5 _ [.int (xb true)] _ _
    refine xb_if_eq true 18 dX10_body_5 (by decide) rfl (fun z => absurd z (by decide)) (fun _ => ?_)
    refine xi_iload_n dX10_body_8 rfl ?_
    refine xi_iconst (v := 0) dX10_body_9 rfl ?_
    refine xi_bipush (v := 6) dX10_body_10 (by decide) ?_
    refine xi_callS [.int x1, .int 0, .int 6] [] dX10_body_12 zX10_in mlX10_137 rfl rfl rfl (Nat.le_of_ble_eq_true rfl) (Nat.le_of_ble_eq_true rfl) ⟨by decide, by decide⟩ ?_
    refine n_inF (l := 0) (r := 6) (at_rg (by omega) hc1 (by omega)) ?_
    show WP _ _ 15 _ [.int (xb false)] _ _
    refine xb_if_ne false 20 dX10_body_15 (by decide) rfl (fun z => absurd z (by decide)) (fun _ => ?_)
    refine xi_iconst (v := (-1)) dX10_body_18 rfl ?_
    refine xi_iret (v := (-1)) dX10_body_19 rfl ?_
    have e : a_body (G, S0, now, late, risk, A, L, sq, nl, rf, hr, lg, w, tp) (nI k0) x1 = -1 := by simp only [a_body, ec0, ec1]
    rw [e] at h
    exact h
  rcases (show k1 = 0 ∨ k1 = 1 ∨ k1 = 2 ∨ k1 = 3 ∨ k1 = 4 ∨ k1 = 5 ∨ k1 = 6 by omega) with rfl | rfl | rfl | rfl | rfl | rfl | rfl
  · skip
    refine xi_aload_n dX10_body_0 rfl ?_
    refine xi_iload_n dX10_body_1 rfl ?_
    refine xi_callV [.int (nI k0)] [] dX10_body_2 zX10_isPlayer mlX10_272 mm0 rfl rfl rfl rfl rfl (Nat.le_of_ble_eq_true rfl) (Nat.le_of_ble_eq_true rfl) ⟨by decide, by decide⟩ ?_
    refine n_isPT hW hG (k := k0) (by omega) ?_
    show WP _ _ 5 _ [.int (xb true)] _ _
    refine xb_if_eq true 18 dX10_body_5 (by decide) rfl (fun z => absurd z (by decide)) (fun _ => ?_)
    refine xi_iload_n dX10_body_8 rfl ?_
    refine xi_iconst (v := 0) dX10_body_9 rfl ?_
    refine xi_bipush (v := 6) dX10_body_10 (by decide) ?_
    refine xi_callS [.int (nI 0), .int 0, .int 6] [] dX10_body_12 zX10_in mlX10_137 rfl rfl rfl (Nat.le_of_ble_eq_true rfl) (Nat.le_of_ble_eq_true rfl) ⟨by decide, by decide⟩ ?_
    refine n_inT (k := 0) (l := 0) (r := 6) (by omega) (by omega) (by omega) ?_
    show WP _ _ 15 _ [.int (xb true)] _ _
    refine xb_if_ne true 20 dX10_body_15 (by decide) rfl (fun _ => ?_) (fun z => absurd z (by decide))
    refine xi_bipush (v := 112) dX10_body_20 (by decide) ?_
    refine xi_aload_n dX10_body_22 rfl ?_
    refine xe_getI (v := nI now) dX10_body_23 fgX10_110 mm0 rfl hno ?_
    refine xe_imul dX10_body_26 (v := nI s) ((pk_mul 112 now).trans (congrArg nI es.symm)) ?_
    refine xi_istore_n (lv' := [some (.ref 0), some (.int (nI k0)), some (.int (nI 0)), some (.int (nI s))]) dX10_body_27 (by decide) rfl ?_
    refine xi_iload_n dX10_body_28 rfl ?_
    refine xi_iconst (v := 5) dX10_body_29 rfl ?_
    refine xn_icmp_ge 0 5 49 dX10_body_30 (by decide) rfl rfl (by omega) (by omega) (fun h30 => ?_) (fun h30 => ?_)
    · omega
    · skip
      refine xi_aload_n dX10_body_33 rfl ?_
      refine xi_getR dX10_body_34 fgX10_39 mm0 rfl ?_
      refine xi_iload_n dX10_body_37 rfl ?_
      refine xi_bipush (v := 6) dX10_body_38 (by decide) ?_
      refine xi_iload_n dX10_body_40 rfl ?_
      refine xe_imul dX10_body_41 (v := nI (6 * k0)) (pk_mul 6 k0) ?_
      refine xe_iadd dX10_body_42 (v := nI (s + (6 * k0))) (nI_add s (6 * k0)) ?_
      refine xi_iload_n dX10_body_43 rfl ?_
      refine xe_iadd dX10_body_44 (v := nI (s + (6 * k0) + 0)) (nI_add (s + (6 * k0)) 0) ?_
      refine xe_iald (v := sC (Zf G A S0 now) k0) (s + (6 * k0) + 0) dX10_body_45 mm5 (by decide) rfl (by omega) (rmC hS (by omega)) ?_
      refine xi_goto 79 dX10_body_46 (by decide) ?_
      refine xi_iret (v := sC (Zf G A S0 now) k0) dX10_body_79 rfl ?_
      simp only [a_body, ec0, ec1, h30] at h
      exact h
  · skip
    refine xi_aload_n dX10_body_0 rfl ?_
    refine xi_iload_n dX10_body_1 rfl ?_
    refine xi_callV [.int (nI k0)] [] dX10_body_2 zX10_isPlayer mlX10_272 mm0 rfl rfl rfl rfl rfl (Nat.le_of_ble_eq_true rfl) (Nat.le_of_ble_eq_true rfl) ⟨by decide, by decide⟩ ?_
    refine n_isPT hW hG (k := k0) (by omega) ?_
    show WP _ _ 5 _ [.int (xb true)] _ _
    refine xb_if_eq true 18 dX10_body_5 (by decide) rfl (fun z => absurd z (by decide)) (fun _ => ?_)
    refine xi_iload_n dX10_body_8 rfl ?_
    refine xi_iconst (v := 0) dX10_body_9 rfl ?_
    refine xi_bipush (v := 6) dX10_body_10 (by decide) ?_
    refine xi_callS [.int (nI 1), .int 0, .int 6] [] dX10_body_12 zX10_in mlX10_137 rfl rfl rfl (Nat.le_of_ble_eq_true rfl) (Nat.le_of_ble_eq_true rfl) ⟨by decide, by decide⟩ ?_
    refine n_inT (k := 1) (l := 0) (r := 6) (by omega) (by omega) (by omega) ?_
    show WP _ _ 15 _ [.int (xb true)] _ _
    refine xb_if_ne true 20 dX10_body_15 (by decide) rfl (fun _ => ?_) (fun z => absurd z (by decide))
    refine xi_bipush (v := 112) dX10_body_20 (by decide) ?_
    refine xi_aload_n dX10_body_22 rfl ?_
    refine xe_getI (v := nI now) dX10_body_23 fgX10_110 mm0 rfl hno ?_
    refine xe_imul dX10_body_26 (v := nI s) ((pk_mul 112 now).trans (congrArg nI es.symm)) ?_
    refine xi_istore_n (lv' := [some (.ref 0), some (.int (nI k0)), some (.int (nI 1)), some (.int (nI s))]) dX10_body_27 (by decide) rfl ?_
    refine xi_iload_n dX10_body_28 rfl ?_
    refine xi_iconst (v := 5) dX10_body_29 rfl ?_
    refine xn_icmp_ge 1 5 49 dX10_body_30 (by decide) rfl rfl (by omega) (by omega) (fun h30 => ?_) (fun h30 => ?_)
    · omega
    · skip
      refine xi_aload_n dX10_body_33 rfl ?_
      refine xi_getR dX10_body_34 fgX10_39 mm0 rfl ?_
      refine xi_iload_n dX10_body_37 rfl ?_
      refine xi_bipush (v := 6) dX10_body_38 (by decide) ?_
      refine xi_iload_n dX10_body_40 rfl ?_
      refine xe_imul dX10_body_41 (v := nI (6 * k0)) (pk_mul 6 k0) ?_
      refine xe_iadd dX10_body_42 (v := nI (s + (6 * k0))) (nI_add s (6 * k0)) ?_
      refine xi_iload_n dX10_body_43 rfl ?_
      refine xe_iadd dX10_body_44 (v := nI (s + (6 * k0) + 1)) (nI_add (s + (6 * k0)) 1) ?_
      have q1 := (hw).2.1 k0 (by omega)
      refine xe_iald (v := nI (sL (Zf G A S0 now) k0)) (s + (6 * k0) + 1) dX10_body_45 mm5 (by decide) rfl (by omega) (rmL hS (by omega)) ?_
      refine xi_goto 79 dX10_body_46 (by decide) ?_
      refine xi_iret (v := nI (sL (Zf G A S0 now) k0)) dX10_body_79 rfl ?_
      simp only [a_body, ec0, ec1, h30] at h
      exact h
  · skip
    refine xi_aload_n dX10_body_0 rfl ?_
    refine xi_iload_n dX10_body_1 rfl ?_
    refine xi_callV [.int (nI k0)] [] dX10_body_2 zX10_isPlayer mlX10_272 mm0 rfl rfl rfl rfl rfl (Nat.le_of_ble_eq_true rfl) (Nat.le_of_ble_eq_true rfl) ⟨by decide, by decide⟩ ?_
    refine n_isPT hW hG (k := k0) (by omega) ?_
    show WP _ _ 5 _ [.int (xb true)] _ _
    refine xb_if_eq true 18 dX10_body_5 (by decide) rfl (fun z => absurd z (by decide)) (fun _ => ?_)
    refine xi_iload_n dX10_body_8 rfl ?_
    refine xi_iconst (v := 0) dX10_body_9 rfl ?_
    refine xi_bipush (v := 6) dX10_body_10 (by decide) ?_
    refine xi_callS [.int (nI 2), .int 0, .int 6] [] dX10_body_12 zX10_in mlX10_137 rfl rfl rfl (Nat.le_of_ble_eq_true rfl) (Nat.le_of_ble_eq_true rfl) ⟨by decide, by decide⟩ ?_
    refine n_inT (k := 2) (l := 0) (r := 6) (by omega) (by omega) (by omega) ?_
    show WP _ _ 15 _ [.int (xb true)] _ _
    refine xb_if_ne true 20 dX10_body_15 (by decide) rfl (fun _ => ?_) (fun z => absurd z (by decide))
    refine xi_bipush (v := 112) dX10_body_20 (by decide) ?_
    refine xi_aload_n dX10_body_22 rfl ?_
    refine xe_getI (v := nI now) dX10_body_23 fgX10_110 mm0 rfl hno ?_
    refine xe_imul dX10_body_26 (v := nI s) ((pk_mul 112 now).trans (congrArg nI es.symm)) ?_
    refine xi_istore_n (lv' := [some (.ref 0), some (.int (nI k0)), some (.int (nI 2)), some (.int (nI s))]) dX10_body_27 (by decide) rfl ?_
    refine xi_iload_n dX10_body_28 rfl ?_
    refine xi_iconst (v := 5) dX10_body_29 rfl ?_
    refine xn_icmp_ge 2 5 49 dX10_body_30 (by decide) rfl rfl (by omega) (by omega) (fun h30 => ?_) (fun h30 => ?_)
    · omega
    · skip
      refine xi_aload_n dX10_body_33 rfl ?_
      refine xi_getR dX10_body_34 fgX10_39 mm0 rfl ?_
      refine xi_iload_n dX10_body_37 rfl ?_
      refine xi_bipush (v := 6) dX10_body_38 (by decide) ?_
      refine xi_iload_n dX10_body_40 rfl ?_
      refine xe_imul dX10_body_41 (v := nI (6 * k0)) (pk_mul 6 k0) ?_
      refine xe_iadd dX10_body_42 (v := nI (s + (6 * k0))) (nI_add s (6 * k0)) ?_
      refine xi_iload_n dX10_body_43 rfl ?_
      refine xe_iadd dX10_body_44 (v := nI (s + (6 * k0) + 2)) (nI_add (s + (6 * k0)) 2) ?_
      refine xe_iald (v := sF (Zf G A S0 now) k0) (s + (6 * k0) + 2) dX10_body_45 mm5 (by decide) rfl (by omega) (rmF hS (by omega)) ?_
      refine xi_goto 79 dX10_body_46 (by decide) ?_
      refine xi_iret (v := sF (Zf G A S0 now) k0) dX10_body_79 rfl ?_
      simp only [a_body, ec0, ec1, h30] at h
      exact h
  · skip
    refine xi_aload_n dX10_body_0 rfl ?_
    refine xi_iload_n dX10_body_1 rfl ?_
    refine xi_callV [.int (nI k0)] [] dX10_body_2 zX10_isPlayer mlX10_272 mm0 rfl rfl rfl rfl rfl (Nat.le_of_ble_eq_true rfl) (Nat.le_of_ble_eq_true rfl) ⟨by decide, by decide⟩ ?_
    refine n_isPT hW hG (k := k0) (by omega) ?_
    show WP _ _ 5 _ [.int (xb true)] _ _
    refine xb_if_eq true 18 dX10_body_5 (by decide) rfl (fun z => absurd z (by decide)) (fun _ => ?_)
    refine xi_iload_n dX10_body_8 rfl ?_
    refine xi_iconst (v := 0) dX10_body_9 rfl ?_
    refine xi_bipush (v := 6) dX10_body_10 (by decide) ?_
    refine xi_callS [.int (nI 3), .int 0, .int 6] [] dX10_body_12 zX10_in mlX10_137 rfl rfl rfl (Nat.le_of_ble_eq_true rfl) (Nat.le_of_ble_eq_true rfl) ⟨by decide, by decide⟩ ?_
    refine n_inT (k := 3) (l := 0) (r := 6) (by omega) (by omega) (by omega) ?_
    show WP _ _ 15 _ [.int (xb true)] _ _
    refine xb_if_ne true 20 dX10_body_15 (by decide) rfl (fun _ => ?_) (fun z => absurd z (by decide))
    refine xi_bipush (v := 112) dX10_body_20 (by decide) ?_
    refine xi_aload_n dX10_body_22 rfl ?_
    refine xe_getI (v := nI now) dX10_body_23 fgX10_110 mm0 rfl hno ?_
    refine xe_imul dX10_body_26 (v := nI s) ((pk_mul 112 now).trans (congrArg nI es.symm)) ?_
    refine xi_istore_n (lv' := [some (.ref 0), some (.int (nI k0)), some (.int (nI 3)), some (.int (nI s))]) dX10_body_27 (by decide) rfl ?_
    refine xi_iload_n dX10_body_28 rfl ?_
    refine xi_iconst (v := 5) dX10_body_29 rfl ?_
    refine xn_icmp_ge 3 5 49 dX10_body_30 (by decide) rfl rfl (by omega) (by omega) (fun h30 => ?_) (fun h30 => ?_)
    · omega
    · skip
      refine xi_aload_n dX10_body_33 rfl ?_
      refine xi_getR dX10_body_34 fgX10_39 mm0 rfl ?_
      refine xi_iload_n dX10_body_37 rfl ?_
      refine xi_bipush (v := 6) dX10_body_38 (by decide) ?_
      refine xi_iload_n dX10_body_40 rfl ?_
      refine xe_imul dX10_body_41 (v := nI (6 * k0)) (pk_mul 6 k0) ?_
      refine xe_iadd dX10_body_42 (v := nI (s + (6 * k0))) (nI_add s (6 * k0)) ?_
      refine xi_iload_n dX10_body_43 rfl ?_
      refine xe_iadd dX10_body_44 (v := nI (s + (6 * k0) + 3)) (nI_add (s + (6 * k0)) 3) ?_
      have q1 := (hw).2.2.2.1 k0 (by omega)
      refine xe_iald (v := nI (sR (Zf G A S0 now) k0)) (s + (6 * k0) + 3) dX10_body_45 mm5 (by decide) rfl (by omega) (rmR hS (by omega)) ?_
      refine xi_goto 79 dX10_body_46 (by decide) ?_
      refine xi_iret (v := nI (sR (Zf G A S0 now) k0)) dX10_body_79 rfl ?_
      simp only [a_body, ec0, ec1, h30] at h
      exact h
  · skip
    refine xi_aload_n dX10_body_0 rfl ?_
    refine xi_iload_n dX10_body_1 rfl ?_
    refine xi_callV [.int (nI k0)] [] dX10_body_2 zX10_isPlayer mlX10_272 mm0 rfl rfl rfl rfl rfl (Nat.le_of_ble_eq_true rfl) (Nat.le_of_ble_eq_true rfl) ⟨by decide, by decide⟩ ?_
    refine n_isPT hW hG (k := k0) (by omega) ?_
    show WP _ _ 5 _ [.int (xb true)] _ _
    refine xb_if_eq true 18 dX10_body_5 (by decide) rfl (fun z => absurd z (by decide)) (fun _ => ?_)
    refine xi_iload_n dX10_body_8 rfl ?_
    refine xi_iconst (v := 0) dX10_body_9 rfl ?_
    refine xi_bipush (v := 6) dX10_body_10 (by decide) ?_
    refine xi_callS [.int (nI 4), .int 0, .int 6] [] dX10_body_12 zX10_in mlX10_137 rfl rfl rfl (Nat.le_of_ble_eq_true rfl) (Nat.le_of_ble_eq_true rfl) ⟨by decide, by decide⟩ ?_
    refine n_inT (k := 4) (l := 0) (r := 6) (by omega) (by omega) (by omega) ?_
    show WP _ _ 15 _ [.int (xb true)] _ _
    refine xb_if_ne true 20 dX10_body_15 (by decide) rfl (fun _ => ?_) (fun z => absurd z (by decide))
    refine xi_bipush (v := 112) dX10_body_20 (by decide) ?_
    refine xi_aload_n dX10_body_22 rfl ?_
    refine xe_getI (v := nI now) dX10_body_23 fgX10_110 mm0 rfl hno ?_
    refine xe_imul dX10_body_26 (v := nI s) ((pk_mul 112 now).trans (congrArg nI es.symm)) ?_
    refine xi_istore_n (lv' := [some (.ref 0), some (.int (nI k0)), some (.int (nI 4)), some (.int (nI s))]) dX10_body_27 (by decide) rfl ?_
    refine xi_iload_n dX10_body_28 rfl ?_
    refine xi_iconst (v := 5) dX10_body_29 rfl ?_
    refine xn_icmp_ge 4 5 49 dX10_body_30 (by decide) rfl rfl (by omega) (by omega) (fun h30 => ?_) (fun h30 => ?_)
    · omega
    · skip
      refine xi_aload_n dX10_body_33 rfl ?_
      refine xi_getR dX10_body_34 fgX10_39 mm0 rfl ?_
      refine xi_iload_n dX10_body_37 rfl ?_
      refine xi_bipush (v := 6) dX10_body_38 (by decide) ?_
      refine xi_iload_n dX10_body_40 rfl ?_
      refine xe_imul dX10_body_41 (v := nI (6 * k0)) (pk_mul 6 k0) ?_
      refine xe_iadd dX10_body_42 (v := nI (s + (6 * k0))) (nI_add s (6 * k0)) ?_
      refine xi_iload_n dX10_body_43 rfl ?_
      refine xe_iadd dX10_body_44 (v := nI (s + (6 * k0) + 4)) (nI_add (s + (6 * k0)) 4) ?_
      obtain ⟨o1, ho1⟩ : ∃ o, o = mHn G (Zf G A S0 now) k0 := ⟨_, rfl⟩
      refine xe_iald (v := xo o1) (s + (6 * k0) + 4) dX10_body_45 mm5 (by decide) rfl (by omega) (by rw [ho1]; exact rmHn hS (by omega)) ?_
      refine xi_goto 79 dX10_body_46 (by decide) ?_
      refine xi_iret (v := xo o1) dX10_body_79 rfl ?_
      simp only [a_body, ec0, ec1, h30] at h
      rw [ho1]
      exact h
  · skip
    refine xi_aload_n dX10_body_0 rfl ?_
    refine xi_iload_n dX10_body_1 rfl ?_
    refine xi_callV [.int (nI k0)] [] dX10_body_2 zX10_isPlayer mlX10_272 mm0 rfl rfl rfl rfl rfl (Nat.le_of_ble_eq_true rfl) (Nat.le_of_ble_eq_true rfl) ⟨by decide, by decide⟩ ?_
    refine n_isPT hW hG (k := k0) (by omega) ?_
    show WP _ _ 5 _ [.int (xb true)] _ _
    refine xb_if_eq true 18 dX10_body_5 (by decide) rfl (fun z => absurd z (by decide)) (fun _ => ?_)
    refine xi_iload_n dX10_body_8 rfl ?_
    refine xi_iconst (v := 0) dX10_body_9 rfl ?_
    refine xi_bipush (v := 6) dX10_body_10 (by decide) ?_
    refine xi_callS [.int (nI 5), .int 0, .int 6] [] dX10_body_12 zX10_in mlX10_137 rfl rfl rfl (Nat.le_of_ble_eq_true rfl) (Nat.le_of_ble_eq_true rfl) ⟨by decide, by decide⟩ ?_
    refine n_inT (k := 5) (l := 0) (r := 6) (by omega) (by omega) (by omega) ?_
    show WP _ _ 15 _ [.int (xb true)] _ _
    refine xb_if_ne true 20 dX10_body_15 (by decide) rfl (fun _ => ?_) (fun z => absurd z (by decide))
    refine xi_bipush (v := 112) dX10_body_20 (by decide) ?_
    refine xi_aload_n dX10_body_22 rfl ?_
    refine xe_getI (v := nI now) dX10_body_23 fgX10_110 mm0 rfl hno ?_
    refine xe_imul dX10_body_26 (v := nI s) ((pk_mul 112 now).trans (congrArg nI es.symm)) ?_
    refine xi_istore_n (lv' := [some (.ref 0), some (.int (nI k0)), some (.int (nI 5)), some (.int (nI s))]) dX10_body_27 (by decide) rfl ?_
    refine xi_iload_n dX10_body_28 rfl ?_
    refine xi_iconst (v := 5) dX10_body_29 rfl ?_
    refine xn_icmp_ge 5 5 49 dX10_body_30 (by decide) rfl rfl (by omega) (by omega) (fun h30 => ?_) (fun h30 => ?_)
    · skip
      refine xi_iload_n dX10_body_49 rfl ?_
      refine xi_iconst (v := 5) dX10_body_50 rfl ?_
      refine xn_icmp_ne 5 5 68 dX10_body_51 (by decide) rfl rfl (by omega) (by omega) (fun h51 => ?_) (fun h51 => ?_)
      · omega
      · skip
        refine xi_aload_n dX10_body_54 rfl ?_
        refine xi_getR dX10_body_55 fgX10_39 mm0 rfl ?_
        refine xi_iload_n dX10_body_58 rfl ?_
        refine xi_bipush (v := 104) dX10_body_59 (by decide) ?_
        refine xe_iadd dX10_body_61 (v := nI (s + 104)) (nI_add s 104) ?_
        refine xi_iload_n dX10_body_62 rfl ?_
        refine xe_iadd dX10_body_63 (v := nI (s + 104 + k0)) (nI_add (s + 104) k0) ?_
        refine xe_iald (v := sP (Zf G A S0 now) k0) (s + 104 + k0) dX10_body_64 mm5 (by decide) rfl (by omega) (rmP hS (by omega)) ?_
        refine xi_goto 79 dX10_body_65 (by decide) ?_
        refine xi_iret (v := sP (Zf G A S0 now) k0) dX10_body_79 rfl ?_
        simp only [a_body, ec0, ec1, h30, h51] at h
        exact h
    · omega
  · skip
    refine xi_aload_n dX10_body_0 rfl ?_
    refine xi_iload_n dX10_body_1 rfl ?_
    refine xi_callV [.int (nI k0)] [] dX10_body_2 zX10_isPlayer mlX10_272 mm0 rfl rfl rfl rfl rfl (Nat.le_of_ble_eq_true rfl) (Nat.le_of_ble_eq_true rfl) ⟨by decide, by decide⟩ ?_
    refine n_isPT hW hG (k := k0) (by omega) ?_
    show WP _ _ 5 _ [.int (xb true)] _ _
    refine xb_if_eq true 18 dX10_body_5 (by decide) rfl (fun z => absurd z (by decide)) (fun _ => ?_)
    refine xi_iload_n dX10_body_8 rfl ?_
    refine xi_iconst (v := 0) dX10_body_9 rfl ?_
    refine xi_bipush (v := 6) dX10_body_10 (by decide) ?_
    refine xi_callS [.int (nI 6), .int 0, .int 6] [] dX10_body_12 zX10_in mlX10_137 rfl rfl rfl (Nat.le_of_ble_eq_true rfl) (Nat.le_of_ble_eq_true rfl) ⟨by decide, by decide⟩ ?_
    refine n_inT (k := 6) (l := 0) (r := 6) (by omega) (by omega) (by omega) ?_
    show WP _ _ 15 _ [.int (xb true)] _ _
    refine xb_if_ne true 20 dX10_body_15 (by decide) rfl (fun _ => ?_) (fun z => absurd z (by decide))
    refine xi_bipush (v := 112) dX10_body_20 (by decide) ?_
    refine xi_aload_n dX10_body_22 rfl ?_
    refine xe_getI (v := nI now) dX10_body_23 fgX10_110 mm0 rfl hno ?_
    refine xe_imul dX10_body_26 (v := nI s) ((pk_mul 112 now).trans (congrArg nI es.symm)) ?_
    refine xi_istore_n (lv' := [some (.ref 0), some (.int (nI k0)), some (.int (nI 6)), some (.int (nI s))]) dX10_body_27 (by decide) rfl ?_
    refine xi_iload_n dX10_body_28 rfl ?_
    refine xi_iconst (v := 5) dX10_body_29 rfl ?_
    refine xn_icmp_ge 6 5 49 dX10_body_30 (by decide) rfl rfl (by omega) (by omega) (fun h30 => ?_) (fun h30 => ?_)
    · skip
      refine xi_iload_n dX10_body_49 rfl ?_
      refine xi_iconst (v := 5) dX10_body_50 rfl ?_
      refine xn_icmp_ne 6 5 68 dX10_body_51 (by decide) rfl rfl (by omega) (by omega) (fun h51 => ?_) (fun h51 => ?_)
      · skip
        refine xi_aload_n dX10_body_68 rfl ?_
        refine xi_getR dX10_body_69 fgX10_39 mm0 rfl ?_
        refine xi_iload_n dX10_body_72 rfl ?_
        refine xi_bipush (v := 108) dX10_body_73 (by decide) ?_
        refine xe_iadd dX10_body_75 (v := nI (s + 108)) (nI_add s 108) ?_
        refine xi_iload_n dX10_body_76 rfl ?_
        refine xe_iadd dX10_body_77 (v := nI (s + 108 + k0)) (nI_add (s + 108) k0) ?_
        refine xe_iald (v := sK (Zf G A S0 now) k0) (s + 108 + k0) dX10_body_78 mm5 (by decide) rfl (by omega) (rmK hS (by omega)) ?_
        refine xi_iret (v := sK (Zf G A S0 now) k0) dX10_body_79 rfl ?_
        simp only [a_body, ec0, ec1, h30, h51] at h
        exact h
      · omega
    · omega

set_option maxHeartbeats 4000000 in
set_option maxRecDepth 100000 in
theorem mo_thing {X : xX} {M : xM} {Q : Option Value → xM → Prop} (hX : wX X) (hC : RepM X M) (x0 : Int32) (x1 : Int32) (h : Q (some (.int (a_thing X x0 x1))) M) : WP shM mX10_thing 0 [some (.ref 0), some (.int x0), some (.int x1), none] [] M Q := by
  obtain ⟨G, S0, now, late, risk, A, L, sq, nl, rf, hr, lg, w, tp⟩ := X
  obtain ⟨hW, hw0, wn, wl, wr, wA_, wsq, wnl, wmo, wtk, wwt, wtp, wO0, wB0⟩ := id hX
  obtain ⟨b1, b2, b3, b4, b5, b6, b7, b8, b9, wmap, wlink, wk0, wk1, b10, b11, wword⟩ := id hW
  have nb : nl ≤ 2000 := by rw [wnl]; exact mcnt_le 2000
  obtain ⟨hG, hNS, hNA, hNL, hNH, hNE, hNQ, hNW, hNT, hNM⟩ := id hC
  obtain ⟨hno, hla, hri, hnl, hrf, hhr⟩ := id hNM
  obtain ⟨s, es⟩ : ∃ s, s = 112 * now := ⟨_, rfl⟩
  have hs : s ≤ 56000 := by omega
  have hS : RM G (Zf G A S0 now) M s := by rw [es]; exact hNS.1 now (Nat.le_refl _)
  have hw : wS G (Zf G A S0 now) := wS_Zf hW hw0 now
  rcases xix_cases x0 (n := gT G) (by omega) with ⟨ec0, hc0⟩ | ⟨k0, hk0, rfl, ec0⟩
  · skip
    refine xi_iload_n dX10_thing_0 rfl ?_
    refine xi_iconst (v := 0) dX10_thing_1 rfl ?_
    refine xi_aload_n dX10_thing_2 rfl ?_
    refine xe_getI (v := nI (gT G)) dX10_thing_3 fgX10_107 mm0 rfl (mg_T hG) ?_
    refine xi_iconst (v := 1) dX10_thing_6 rfl ?_
    refine xi_isub dX10_thing_7 ?_
    refine xi_callS [.int x0, .int 0, .int (nI (gT G) - 1)] [] dX10_thing_8 zX10_in mlX10_137 rfl rfl rfl (Nat.le_of_ble_eq_true rfl) (Nat.le_of_ble_eq_true rfl) ⟨by decide, by decide⟩ ?_
    refine n_in1F (n := (gT G)) (by omega) hc0 ?_
    show WP _ _ 11 _ [.int (xb false)] _ _
    refine xb_if_eq false 23 dX10_thing_11 (by decide) rfl (fun _ => ?_) (fun z => absurd z (by decide))
    refine xi_iconst (v := (-1)) dX10_thing_23 rfl ?_
    refine xi_iret (v := (-1)) dX10_thing_24 rfl ?_
    have e : a_thing (G, S0, now, late, risk, A, L, sq, nl, rf, hr, lg, w, tp) x0 x1 = -1 := by simp only [a_thing, ec0]
    rw [e] at h
    exact h
  rcases xix_cases x1 (n := 4) (by omega) with ⟨ec1, hc1⟩ | ⟨k1, hk1, rfl, ec1⟩
  · skip
    refine xi_iload_n dX10_thing_0 rfl ?_
    refine xi_iconst (v := 0) dX10_thing_1 rfl ?_
    refine xi_aload_n dX10_thing_2 rfl ?_
    refine xe_getI (v := nI (gT G)) dX10_thing_3 fgX10_107 mm0 rfl (mg_T hG) ?_
    refine xi_iconst (v := 1) dX10_thing_6 rfl ?_
    refine xi_isub dX10_thing_7 ?_
    refine xi_callS [.int (nI k0), .int 0, .int (nI (gT G) - 1)] [] dX10_thing_8 zX10_in mlX10_137 rfl rfl rfl (Nat.le_of_ble_eq_true rfl) (Nat.le_of_ble_eq_true rfl) ⟨by decide, by decide⟩ ?_
    refine n_in1T (k := k0) (n := (gT G)) (by omega) (by omega) ?_
    show WP _ _ 11 _ [.int (xb true)] _ _
    refine xb_if_eq true 23 dX10_thing_11 (by decide) rfl (fun z => absurd z (by decide)) (fun _ => ?_)
    refine xi_iload_n dX10_thing_14 rfl ?_
    refine xi_iconst (v := 0) dX10_thing_15 rfl ?_
    refine xi_iconst (v := 3) dX10_thing_16 rfl ?_
    refine xi_callS [.int x1, .int 0, .int 3] [] dX10_thing_17 zX10_in mlX10_137 rfl rfl rfl (Nat.le_of_ble_eq_true rfl) (Nat.le_of_ble_eq_true rfl) ⟨by decide, by decide⟩ ?_
    refine n_inF (l := 0) (r := 3) (at_rg (by omega) hc1 (by omega)) ?_
    show WP _ _ 20 _ [.int (xb false)] _ _
    refine xb_if_ne false 25 dX10_thing_20 (by decide) rfl (fun z => absurd z (by decide)) (fun _ => ?_)
    refine xi_iconst (v := (-1)) dX10_thing_23 rfl ?_
    refine xi_iret (v := (-1)) dX10_thing_24 rfl ?_
    have e : a_thing (G, S0, now, late, risk, A, L, sq, nl, rf, hr, lg, w, tp) (nI k0) x1 = -1 := by simp only [a_thing, ec0, ec1]
    rw [e] at h
    exact h
  rcases (show k1 = 0 ∨ k1 = 1 ∨ k1 = 2 ∨ k1 = 3 by omega) with rfl | rfl | rfl | rfl
  · skip
    refine xi_iload_n dX10_thing_0 rfl ?_
    refine xi_iconst (v := 0) dX10_thing_1 rfl ?_
    refine xi_aload_n dX10_thing_2 rfl ?_
    refine xe_getI (v := nI (gT G)) dX10_thing_3 fgX10_107 mm0 rfl (mg_T hG) ?_
    refine xi_iconst (v := 1) dX10_thing_6 rfl ?_
    refine xi_isub dX10_thing_7 ?_
    refine xi_callS [.int (nI k0), .int 0, .int (nI (gT G) - 1)] [] dX10_thing_8 zX10_in mlX10_137 rfl rfl rfl (Nat.le_of_ble_eq_true rfl) (Nat.le_of_ble_eq_true rfl) ⟨by decide, by decide⟩ ?_
    refine n_in1T (k := k0) (n := (gT G)) (by omega) (by omega) ?_
    show WP _ _ 11 _ [.int (xb true)] _ _
    refine xb_if_eq true 23 dX10_thing_11 (by decide) rfl (fun z => absurd z (by decide)) (fun _ => ?_)
    refine xi_iload_n dX10_thing_14 rfl ?_
    refine xi_iconst (v := 0) dX10_thing_15 rfl ?_
    refine xi_iconst (v := 3) dX10_thing_16 rfl ?_
    refine xi_callS [.int (nI 0), .int 0, .int 3] [] dX10_thing_17 zX10_in mlX10_137 rfl rfl rfl (Nat.le_of_ble_eq_true rfl) (Nat.le_of_ble_eq_true rfl) ⟨by decide, by decide⟩ ?_
    refine n_inT (k := 0) (l := 0) (r := 3) (by omega) (by omega) (by omega) ?_
    show WP _ _ 20 _ [.int (xb true)] _ _
    refine xb_if_ne true 25 dX10_thing_20 (by decide) rfl (fun _ => ?_) (fun z => absurd z (by decide))
    refine xi_bipush (v := 112) dX10_thing_25 (by decide) ?_
    refine xi_aload_n dX10_thing_27 rfl ?_
    refine xe_getI (v := nI now) dX10_thing_28 fgX10_110 mm0 rfl hno ?_
    refine xe_imul dX10_thing_31 (v := nI s) ((pk_mul 112 now).trans (congrArg nI es.symm)) ?_
    refine xi_bipush (v := 6) dX10_thing_32 (by decide) ?_
    refine xi_iload_n dX10_thing_34 rfl ?_
    refine xe_imul dX10_thing_35 (v := nI (6 * k0)) (pk_mul 6 k0) ?_
    refine xe_iadd dX10_thing_36 (v := nI (s + (6 * k0))) (nI_add s (6 * k0)) ?_
    refine xi_istore_n (lv' := [some (.ref 0), some (.int (nI k0)), some (.int (nI 0)), some (.int (nI (s + (6 * k0))))]) dX10_thing_37 (by decide) rfl ?_
    refine xi_iload_n dX10_thing_38 rfl ?_
    refine xat 39 rfl ?_
    refine xn_if_ne 0 51 dX10_thing_39 (by decide) rfl (by omega) (fun h39 => ?_) (fun h39 => ?_)
    · omega
    · skip
      refine xi_aload_n dX10_thing_42 rfl ?_
      refine xi_getR dX10_thing_43 fgX10_29 mm0 rfl ?_
      refine xi_iload_n dX10_thing_46 rfl ?_
      have q1 : gkind G k0 ≤ 7 := hW.kind (by omega)
      refine xe_iald (v := nI (gkind G k0)) k0 dX10_thing_47 mm4 (by decide) rfl (by omega) (mg_kind hG (by omega)) ?_
      refine xi_goto 91 dX10_thing_48 (by decide) ?_
      refine xi_iret (v := nI (gkind G k0)) dX10_thing_91 rfl ?_
      simp only [a_thing, ec0, ec1, h39] at h
      exact h
  · skip
    refine xi_iload_n dX10_thing_0 rfl ?_
    refine xi_iconst (v := 0) dX10_thing_1 rfl ?_
    refine xi_aload_n dX10_thing_2 rfl ?_
    refine xe_getI (v := nI (gT G)) dX10_thing_3 fgX10_107 mm0 rfl (mg_T hG) ?_
    refine xi_iconst (v := 1) dX10_thing_6 rfl ?_
    refine xi_isub dX10_thing_7 ?_
    refine xi_callS [.int (nI k0), .int 0, .int (nI (gT G) - 1)] [] dX10_thing_8 zX10_in mlX10_137 rfl rfl rfl (Nat.le_of_ble_eq_true rfl) (Nat.le_of_ble_eq_true rfl) ⟨by decide, by decide⟩ ?_
    refine n_in1T (k := k0) (n := (gT G)) (by omega) (by omega) ?_
    show WP _ _ 11 _ [.int (xb true)] _ _
    refine xb_if_eq true 23 dX10_thing_11 (by decide) rfl (fun z => absurd z (by decide)) (fun _ => ?_)
    refine xi_iload_n dX10_thing_14 rfl ?_
    refine xi_iconst (v := 0) dX10_thing_15 rfl ?_
    refine xi_iconst (v := 3) dX10_thing_16 rfl ?_
    refine xi_callS [.int (nI 1), .int 0, .int 3] [] dX10_thing_17 zX10_in mlX10_137 rfl rfl rfl (Nat.le_of_ble_eq_true rfl) (Nat.le_of_ble_eq_true rfl) ⟨by decide, by decide⟩ ?_
    refine n_inT (k := 1) (l := 0) (r := 3) (by omega) (by omega) (by omega) ?_
    show WP _ _ 20 _ [.int (xb true)] _ _
    refine xb_if_ne true 25 dX10_thing_20 (by decide) rfl (fun _ => ?_) (fun z => absurd z (by decide))
    refine xi_bipush (v := 112) dX10_thing_25 (by decide) ?_
    refine xi_aload_n dX10_thing_27 rfl ?_
    refine xe_getI (v := nI now) dX10_thing_28 fgX10_110 mm0 rfl hno ?_
    refine xe_imul dX10_thing_31 (v := nI s) ((pk_mul 112 now).trans (congrArg nI es.symm)) ?_
    refine xi_bipush (v := 6) dX10_thing_32 (by decide) ?_
    refine xi_iload_n dX10_thing_34 rfl ?_
    refine xe_imul dX10_thing_35 (v := nI (6 * k0)) (pk_mul 6 k0) ?_
    refine xe_iadd dX10_thing_36 (v := nI (s + (6 * k0))) (nI_add s (6 * k0)) ?_
    refine xi_istore_n (lv' := [some (.ref 0), some (.int (nI k0)), some (.int (nI 1)), some (.int (nI (s + (6 * k0))))]) dX10_thing_37 (by decide) rfl ?_
    refine xi_iload_n dX10_thing_38 rfl ?_
    refine xat 39 rfl ?_
    refine xn_if_ne 1 51 dX10_thing_39 (by decide) rfl (by omega) (fun h39 => ?_) (fun h39 => ?_)
    · skip
      refine xi_iload_n dX10_thing_51 rfl ?_
      refine xi_iconst (v := 1) dX10_thing_52 rfl ?_
      refine xn_icmp_ne 1 1 67 dX10_thing_53 (by decide) rfl rfl (by omega) (by omega) (fun h53 => ?_) (fun h53 => ?_)
      · omega
      · skip
        refine xi_aload_n dX10_thing_56 rfl ?_
        refine xi_getR dX10_thing_57 fgX10_39 mm0 rfl ?_
        refine xi_iload_n dX10_thing_60 rfl ?_
        refine xi_iconst (v := 0) dX10_thing_61 rfl ?_
        refine xe_iadd dX10_thing_62 (v := nI (s + (6 * k0) + 0)) (nI_add (s + (6 * k0)) 0) ?_
        refine xe_iald (v := sC (Zf G A S0 now) k0) (s + (6 * k0) + 0) dX10_thing_63 mm5 (by decide) rfl (by omega) (rmC hS (by omega)) ?_
        refine xi_goto 91 dX10_thing_64 (by decide) ?_
        refine xi_iret (v := sC (Zf G A S0 now) k0) dX10_thing_91 rfl ?_
        simp only [a_thing, ec0, ec1, h39, h53] at h
        exact h
    · omega
  · skip
    refine xi_iload_n dX10_thing_0 rfl ?_
    refine xi_iconst (v := 0) dX10_thing_1 rfl ?_
    refine xi_aload_n dX10_thing_2 rfl ?_
    refine xe_getI (v := nI (gT G)) dX10_thing_3 fgX10_107 mm0 rfl (mg_T hG) ?_
    refine xi_iconst (v := 1) dX10_thing_6 rfl ?_
    refine xi_isub dX10_thing_7 ?_
    refine xi_callS [.int (nI k0), .int 0, .int (nI (gT G) - 1)] [] dX10_thing_8 zX10_in mlX10_137 rfl rfl rfl (Nat.le_of_ble_eq_true rfl) (Nat.le_of_ble_eq_true rfl) ⟨by decide, by decide⟩ ?_
    refine n_in1T (k := k0) (n := (gT G)) (by omega) (by omega) ?_
    show WP _ _ 11 _ [.int (xb true)] _ _
    refine xb_if_eq true 23 dX10_thing_11 (by decide) rfl (fun z => absurd z (by decide)) (fun _ => ?_)
    refine xi_iload_n dX10_thing_14 rfl ?_
    refine xi_iconst (v := 0) dX10_thing_15 rfl ?_
    refine xi_iconst (v := 3) dX10_thing_16 rfl ?_
    refine xi_callS [.int (nI 2), .int 0, .int 3] [] dX10_thing_17 zX10_in mlX10_137 rfl rfl rfl (Nat.le_of_ble_eq_true rfl) (Nat.le_of_ble_eq_true rfl) ⟨by decide, by decide⟩ ?_
    refine n_inT (k := 2) (l := 0) (r := 3) (by omega) (by omega) (by omega) ?_
    show WP _ _ 20 _ [.int (xb true)] _ _
    refine xb_if_ne true 25 dX10_thing_20 (by decide) rfl (fun _ => ?_) (fun z => absurd z (by decide))
    refine xi_bipush (v := 112) dX10_thing_25 (by decide) ?_
    refine xi_aload_n dX10_thing_27 rfl ?_
    refine xe_getI (v := nI now) dX10_thing_28 fgX10_110 mm0 rfl hno ?_
    refine xe_imul dX10_thing_31 (v := nI s) ((pk_mul 112 now).trans (congrArg nI es.symm)) ?_
    refine xi_bipush (v := 6) dX10_thing_32 (by decide) ?_
    refine xi_iload_n dX10_thing_34 rfl ?_
    refine xe_imul dX10_thing_35 (v := nI (6 * k0)) (pk_mul 6 k0) ?_
    refine xe_iadd dX10_thing_36 (v := nI (s + (6 * k0))) (nI_add s (6 * k0)) ?_
    refine xi_istore_n (lv' := [some (.ref 0), some (.int (nI k0)), some (.int (nI 2)), some (.int (nI (s + (6 * k0))))]) dX10_thing_37 (by decide) rfl ?_
    refine xi_iload_n dX10_thing_38 rfl ?_
    refine xat 39 rfl ?_
    refine xn_if_ne 2 51 dX10_thing_39 (by decide) rfl (by omega) (fun h39 => ?_) (fun h39 => ?_)
    · skip
      refine xi_iload_n dX10_thing_51 rfl ?_
      refine xi_iconst (v := 1) dX10_thing_52 rfl ?_
      refine xn_icmp_ne 2 1 67 dX10_thing_53 (by decide) rfl rfl (by omega) (by omega) (fun h53 => ?_) (fun h53 => ?_)
      · skip
        refine xi_iload_n dX10_thing_67 rfl ?_
        refine xi_iconst (v := 2) dX10_thing_68 rfl ?_
        refine xn_icmp_ne 2 2 83 dX10_thing_69 (by decide) rfl rfl (by omega) (by omega) (fun h69 => ?_) (fun h69 => ?_)
        · omega
        · skip
          refine xi_aload_n dX10_thing_72 rfl ?_
          refine xi_getR dX10_thing_73 fgX10_39 mm0 rfl ?_
          refine xi_iload_n dX10_thing_76 rfl ?_
          refine xi_iconst (v := 1) dX10_thing_77 rfl ?_
          refine xe_iadd dX10_thing_78 (v := nI (s + (6 * k0) + 1)) (nI_add (s + (6 * k0)) 1) ?_
          have q1 := (hw).2.1 k0 (by omega)
          refine xe_iald (v := nI (sL (Zf G A S0 now) k0)) (s + (6 * k0) + 1) dX10_thing_79 mm5 (by decide) rfl (by omega) (rmL hS (by omega)) ?_
          refine xi_goto 91 dX10_thing_80 (by decide) ?_
          refine xi_iret (v := nI (sL (Zf G A S0 now) k0)) dX10_thing_91 rfl ?_
          simp only [a_thing, ec0, ec1, h39, h53, h69] at h
          exact h
      · omega
    · omega
  · skip
    refine xi_iload_n dX10_thing_0 rfl ?_
    refine xi_iconst (v := 0) dX10_thing_1 rfl ?_
    refine xi_aload_n dX10_thing_2 rfl ?_
    refine xe_getI (v := nI (gT G)) dX10_thing_3 fgX10_107 mm0 rfl (mg_T hG) ?_
    refine xi_iconst (v := 1) dX10_thing_6 rfl ?_
    refine xi_isub dX10_thing_7 ?_
    refine xi_callS [.int (nI k0), .int 0, .int (nI (gT G) - 1)] [] dX10_thing_8 zX10_in mlX10_137 rfl rfl rfl (Nat.le_of_ble_eq_true rfl) (Nat.le_of_ble_eq_true rfl) ⟨by decide, by decide⟩ ?_
    refine n_in1T (k := k0) (n := (gT G)) (by omega) (by omega) ?_
    show WP _ _ 11 _ [.int (xb true)] _ _
    refine xb_if_eq true 23 dX10_thing_11 (by decide) rfl (fun z => absurd z (by decide)) (fun _ => ?_)
    refine xi_iload_n dX10_thing_14 rfl ?_
    refine xi_iconst (v := 0) dX10_thing_15 rfl ?_
    refine xi_iconst (v := 3) dX10_thing_16 rfl ?_
    refine xi_callS [.int (nI 3), .int 0, .int 3] [] dX10_thing_17 zX10_in mlX10_137 rfl rfl rfl (Nat.le_of_ble_eq_true rfl) (Nat.le_of_ble_eq_true rfl) ⟨by decide, by decide⟩ ?_
    refine n_inT (k := 3) (l := 0) (r := 3) (by omega) (by omega) (by omega) ?_
    show WP _ _ 20 _ [.int (xb true)] _ _
    refine xb_if_ne true 25 dX10_thing_20 (by decide) rfl (fun _ => ?_) (fun z => absurd z (by decide))
    refine xi_bipush (v := 112) dX10_thing_25 (by decide) ?_
    refine xi_aload_n dX10_thing_27 rfl ?_
    refine xe_getI (v := nI now) dX10_thing_28 fgX10_110 mm0 rfl hno ?_
    refine xe_imul dX10_thing_31 (v := nI s) ((pk_mul 112 now).trans (congrArg nI es.symm)) ?_
    refine xi_bipush (v := 6) dX10_thing_32 (by decide) ?_
    refine xi_iload_n dX10_thing_34 rfl ?_
    refine xe_imul dX10_thing_35 (v := nI (6 * k0)) (pk_mul 6 k0) ?_
    refine xe_iadd dX10_thing_36 (v := nI (s + (6 * k0))) (nI_add s (6 * k0)) ?_
    refine xi_istore_n (lv' := [some (.ref 0), some (.int (nI k0)), some (.int (nI 3)), some (.int (nI (s + (6 * k0))))]) dX10_thing_37 (by decide) rfl ?_
    refine xi_iload_n dX10_thing_38 rfl ?_
    refine xat 39 rfl ?_
    refine xn_if_ne 3 51 dX10_thing_39 (by decide) rfl (by omega) (fun h39 => ?_) (fun h39 => ?_)
    · skip
      refine xi_iload_n dX10_thing_51 rfl ?_
      refine xi_iconst (v := 1) dX10_thing_52 rfl ?_
      refine xn_icmp_ne 3 1 67 dX10_thing_53 (by decide) rfl rfl (by omega) (by omega) (fun h53 => ?_) (fun h53 => ?_)
      · skip
        refine xi_iload_n dX10_thing_67 rfl ?_
        refine xi_iconst (v := 2) dX10_thing_68 rfl ?_
        refine xn_icmp_ne 3 2 83 dX10_thing_69 (by decide) rfl rfl (by omega) (by omega) (fun h69 => ?_) (fun h69 => ?_)
        · skip
          refine xi_aload_n dX10_thing_83 rfl ?_
          refine xi_getR dX10_thing_84 fgX10_39 mm0 rfl ?_
          refine xi_iload_n dX10_thing_87 rfl ?_
          refine xi_iconst (v := 5) dX10_thing_88 rfl ?_
          refine xe_iadd dX10_thing_89 (v := nI (s + (6 * k0) + 5)) (nI_add (s + (6 * k0)) 5) ?_
          obtain ⟨o1, ho1⟩ : ∃ o, o = sB (Zf G A S0 now) k0 := ⟨_, rfl⟩
          refine xe_iald (v := xo o1) (s + (6 * k0) + 5) dX10_thing_90 mm5 (by decide) rfl (by omega) (by rw [ho1]; exact rmB hS (by omega)) ?_
          refine xi_iret (v := xo o1) dX10_thing_91 rfl ?_
          simp only [a_thing, ec0, ec1, h39, h53, h69] at h
          rw [ho1]
          exact h
        · omega
      · omega
    · omega

set_option maxHeartbeats 4000000 in
set_option maxRecDepth 100000 in
theorem mo_open {X : xX} {M : xM} {Q : Option Value → xM → Prop} (hX : wX X) (hC : RepM X M) (x0 : Int32) (h : Q (some (.int (a_open X x0))) M) : WP shM mX10_open 0 [some (.ref 0), some (.int x0)] [] M Q := by
  obtain ⟨G, S0, now, late, risk, A, L, sq, nl, rf, hr, lg, w, tp⟩ := X
  obtain ⟨hW, hw0, wn, wl, wr, wA_, wsq, wnl, wmo, wtk, wwt, wtp, wO0, wB0⟩ := id hX
  obtain ⟨b1, b2, b3, b4, b5, b6, b7, b8, b9, wmap, wlink, wk0, wk1, b10, b11, wword⟩ := id hW
  have nb : nl ≤ 2000 := by rw [wnl]; exact mcnt_le 2000
  obtain ⟨hG, hNS, hNA, hNL, hNH, hNE, hNQ, hNW, hNT, hNM⟩ := id hC
  obtain ⟨hno, hla, hri, hnl, hrf, hhr⟩ := id hNM
  obtain ⟨s, es⟩ : ∃ s, s = 112 * now := ⟨_, rfl⟩
  have hs : s ≤ 56000 := by omega
  have hS : RM G (Zf G A S0 now) M s := by rw [es]; exact hNS.1 now (Nat.le_refl _)
  have hw : wS G (Zf G A S0 now) := wS_Zf hW hw0 now
  rcases xix_cases x0 (n := gD G) (by omega) with ⟨ec0, hc0⟩ | ⟨k0, hk0, rfl, ec0⟩
  · skip
    refine xi_iload_n dX10_open_0 rfl ?_
    refine xi_iconst (v := 0) dX10_open_1 rfl ?_
    refine xi_aload_n dX10_open_2 rfl ?_
    refine xe_getI (v := nI (gD G)) dX10_open_3 fgX10_104 mm0 rfl (mg_D hG) ?_
    refine xi_iconst (v := 1) dX10_open_6 rfl ?_
    refine xi_isub dX10_open_7 ?_
    refine xi_callS [.int x0, .int 0, .int (nI (gD G) - 1)] [] dX10_open_8 zX10_in mlX10_137 rfl rfl rfl (Nat.le_of_ble_eq_true rfl) (Nat.le_of_ble_eq_true rfl) ⟨by decide, by decide⟩ ?_
    refine n_in1F (n := (gD G)) (by omega) hc0 ?_
    show WP _ _ 11 _ [.int (xb false)] _ _
    refine xb_if_eq false 34 dX10_open_11 (by decide) rfl (fun _ => ?_) (fun z => absurd z (by decide))
    refine xi_iconst (v := (-1)) dX10_open_34 rfl ?_
    refine xi_iret (v := (-1)) dX10_open_35 rfl ?_
    have e : a_open (G, S0, now, late, risk, A, L, sq, nl, rf, hr, lg, w, tp) x0 = -1 := by simp only [a_open, ec0]
    rw [e] at h
    exact h
  refine xi_iload_n dX10_open_0 rfl ?_
  refine xi_iconst (v := 0) dX10_open_1 rfl ?_
  refine xi_aload_n dX10_open_2 rfl ?_
  refine xe_getI (v := nI (gD G)) dX10_open_3 fgX10_104 mm0 rfl (mg_D hG) ?_
  refine xi_iconst (v := 1) dX10_open_6 rfl ?_
  refine xi_isub dX10_open_7 ?_
  refine xi_callS [.int (nI k0), .int 0, .int (nI (gD G) - 1)] [] dX10_open_8 zX10_in mlX10_137 rfl rfl rfl (Nat.le_of_ble_eq_true rfl) (Nat.le_of_ble_eq_true rfl) ⟨by decide, by decide⟩ ?_
  refine n_in1T (k := k0) (n := (gD G)) (by omega) (by omega) ?_
  show WP _ _ 11 _ [.int (xb true)] _ _
  refine xb_if_eq true 34 dX10_open_11 (by decide) rfl (fun z => absurd z (by decide)) (fun _ => ?_)
  refine xi_aload_n dX10_open_14 rfl ?_
  refine xi_getR dX10_open_15 fgX10_39 mm0 rfl ?_
  refine xi_bipush (v := 112) dX10_open_18 (by decide) ?_
  refine xi_aload_n dX10_open_20 rfl ?_
  refine xe_getI (v := nI now) dX10_open_21 fgX10_110 mm0 rfl hno ?_
  refine xe_imul dX10_open_24 (v := nI s) ((pk_mul 112 now).trans (congrArg nI es.symm)) ?_
  refine xi_bipush (v := 96) dX10_open_25 (by decide) ?_
  refine xe_iadd dX10_open_27 (v := nI (s + 96)) (nI_add s 96) ?_
  refine xi_iload_n dX10_open_28 rfl ?_
  refine xe_iadd dX10_open_29 (v := nI (s + 96 + k0)) (nI_add (s + 96) k0) ?_
  refine xat 30 rfl ?_
  refine xe_iald (v := sO (Zf G A S0 now) k0) (s + 96 + k0) dX10_open_30 mm5 (by decide) rfl (by omega) (rmO hS (by omega)) ?_
  refine xi_goto 35 dX10_open_31 (by decide) ?_
  refine xi_iret (v := sO (Zf G A S0 now) k0) dX10_open_35 rfl ?_
  simp only [a_open, ec0] at h
  exact h

set_option maxHeartbeats 4000000 in
set_option maxRecDepth 100000 in
theorem o_seesNow {G : xG} {S0 : xS} {now late risk : Nat} {A : Nat → Nat} {L : Nat → Bool} {sq : Nat → Nat} {nl : Nat} {rf hr : Int32} {lg : xE2} {w : xw} {tp : Nat → xT} {M : xM} {Q : Option Value → xM → Prop} (hX : wX (G, S0, now, late, risk, A, L, sq, nl, rf, hr, lg, w, tp)) (hC : RepM (G, S0, now, late, risk, A, L, sq, nl, rf, hr, lg, w, tp) M) {p k : Nat} (hp : p < gP G) (hk : k < gN G) (h : Q (some (.int (xb (mspot G (Zf G A S0 now) p k)))) M) : WP shM mX10_seesNow 0 [some (.ref 0), some (.int (nI p)), some (.int (nI k)), none] [] M Q := by
  obtain ⟨hW, hw0, wn, wl, wr, wA_, wsq, wnl, wmo, wtk, wwt, wtp, wO0, wB0⟩ := id hX
  obtain ⟨b1, b2, b3, b4, b5, b6, b7, b8, b9, wmap, wlink, wk0, wk1, b10, b11, wword⟩ := id hW
  have nb : nl ≤ 2000 := by rw [wnl]; exact mcnt_le 2000
  obtain ⟨hG, hNS, hNA, hNL, hNH, hNE, hNQ, hNW, hNT, hNM⟩ := id hC
  obtain ⟨hno, hla, hri, hnl, hrf, hhr⟩ := id hNM
  obtain ⟨s, es⟩ : ∃ s, s = 112 * now := ⟨_, rfl⟩
  have hs : s ≤ 56000 := by omega
  have hS : RM G (Zf G A S0 now) M s := by rw [es]; exact hNS.1 now (Nat.le_refl _)
  have hw : wS G (Zf G A S0 now) := wS_Zf hW hw0 now
  have hkp := wk0 p hp
  refine xi_bipush (v := 112) dX10_seesNow_0 (by decide) ?_
  refine xi_aload_n dX10_seesNow_2 rfl ?_
  refine xe_getI (v := nI now) dX10_seesNow_3 fgX10_110 mm0 rfl hno ?_
  refine xe_imul dX10_seesNow_6 (v := nI s) ((pk_mul 112 now).trans (congrArg nI es.symm)) ?_
  refine xi_istore_n (lv' := [some (.ref 0), some (.int (nI p)), some (.int (nI k)), some (.int (nI s))]) dX10_seesNow_7 (by decide) rfl ?_
  refine xi_aload_n dX10_seesNow_8 rfl ?_
  refine xi_iload_n dX10_seesNow_9 rfl ?_
  refine xi_iload_n dX10_seesNow_10 rfl ?_
  refine xi_callV [.int (nI s), .int (nI p)] [] dX10_seesNow_11 zX10_stands mlX10_161 mm0 rfl rfl rfl rfl rfl (Nat.le_of_ble_eq_true rfl) (Nat.le_of_ble_eq_true rfl) ⟨by decide, by decide⟩ ?_
  refine n_stands hW hG hs hS hw (n := p) (by omega) ?_
  show WP _ _ 14 _ [.int (xb (decide (0 < sL (Zf G A S0 now) p)))] _ _
  refine xb_if_eq (decide (0 < sL (Zf G A S0 now) p)) 31 dX10_seesNow_14 (by decide) rfl (fun h14 => ?_) (fun h14 => ?_)
  · skip
    refine xi_iconst (v := 0) dX10_seesNow_31 rfl ?_
    refine xi_zret (v := 0) dX10_seesNow_32 rfl (by decide) ?_
    rw [show mspot G (Zf G A S0 now) p k = false by unfold mspot; rw [h14]; rfl] at h
    exact h
  · have hl0 := of_decide_eq_true h14
    refine xi_aload_n dX10_seesNow_17 rfl ?_
    refine xi_iload_n dX10_seesNow_18 rfl ?_
    refine xi_iload_n dX10_seesNow_19 rfl ?_
    refine xi_iload_n dX10_seesNow_20 rfl ?_
    refine xi_callV [.int (nI s), .int (nI p), .int (nI k)] [] dX10_seesNow_21 zX10_thingSees mlX10_211 mm0 rfl rfl rfl rfl rfl (Nat.le_of_ble_eq_true rfl) (Nat.le_of_ble_eq_true rfl) ⟨by decide, by decide⟩ ?_
    refine n_tsees hW hG hs hS hw (n := p) (k := k) (by omega) (by omega) (by omega) ?_
    show WP _ _ 24 _ [.int (xb (msee G (Zf G A S0 now) (mpos (Zf G A S0 now) p) k (mrad G (Zf G A S0 now) p)))] _ _
    refine xb_if_eq (msee G (Zf G A S0 now) (mpos (Zf G A S0 now) p) k (mrad G (Zf G A S0 now) p)) 31 dX10_seesNow_24 (by decide) rfl (fun h24 => ?_) (fun h24 => ?_)
    · skip
      refine xi_iconst (v := 0) dX10_seesNow_31 rfl ?_
      refine xi_zret (v := 0) dX10_seesNow_32 rfl (by decide) ?_
      have hl := of_decide_eq_true h14
      rw [← mspot_r hp hl] at h
      rw [h24] at h
      exact h
    · skip
      refine xi_iconst (v := 1) dX10_seesNow_27 rfl ?_
      refine xi_goto 32 dX10_seesNow_28 (by decide) ?_
      refine xi_zret (v := 1) dX10_seesNow_32 rfl (by decide) ?_
      have hl := of_decide_eq_true h14
      rw [← mspot_r hp hl] at h
      rw [h24] at h
      exact h

set_option maxHeartbeats 4000000 in
set_option maxRecDepth 100000 in
theorem mo_sees {X : xX} {M : xM} {Q : Option Value → xM → Prop} (hX : wX X) (hC : RepM X M) (x0 : Int32) (x1 : Int32) (h : Q (some (.int (a_sees X x0 x1))) M) : WP shM mX10_sees 0 [some (.ref 0), some (.int x0), some (.int x1)] [] M Q := by
  obtain ⟨G, S0, now, late, risk, A, L, sq, nl, rf, hr, lg, w, tp⟩ := X
  obtain ⟨hW, hw0, wn, wl, wr, wA_, wsq, wnl, wmo, wtk, wwt, wtp, wO0, wB0⟩ := id hX
  obtain ⟨b1, b2, b3, b4, b5, b6, b7, b8, b9, wmap, wlink, wk0, wk1, b10, b11, wword⟩ := id hW
  have nb : nl ≤ 2000 := by rw [wnl]; exact mcnt_le 2000
  obtain ⟨hG, hNS, hNA, hNL, hNH, hNE, hNQ, hNW, hNT, hNM⟩ := id hC
  obtain ⟨hno, hla, hri, hnl, hrf, hhr⟩ := id hNM
  obtain ⟨s, es⟩ : ∃ s, s = 112 * now := ⟨_, rfl⟩
  have hs : s ≤ 56000 := by omega
  have hS : RM G (Zf G A S0 now) M s := by rw [es]; exact hNS.1 now (Nat.le_refl _)
  have hw : wS G (Zf G A S0 now) := wS_Zf hW hw0 now
  rcases xix_cases x0 (n := gP G) (by omega) with ⟨ec0, hc0⟩ | ⟨k0, hk0, rfl, ec0⟩
  · skip
    refine xi_aload_n dX10_sees_0 rfl ?_
    refine xi_iload_n dX10_sees_1 rfl ?_
    refine xi_callV [.int x0] [] dX10_sees_2 zX10_isPlayer mlX10_272 mm0 rfl rfl rfl rfl rfl (Nat.le_of_ble_eq_true rfl) (Nat.le_of_ble_eq_true rfl) ⟨by decide, by decide⟩ ?_
    refine n_isPF hW hG hc0 ?_
    show WP _ _ 5 _ [.int (xb false)] _ _
    refine xb_if_eq false 16 dX10_sees_5 (by decide) rfl (fun _ => ?_) (fun z => absurd z (by decide))
    refine xi_iconst (v := (-1)) dX10_sees_16 rfl ?_
    refine xi_goto 34 dX10_sees_17 (by decide) ?_
    refine xi_iret (v := (-1)) dX10_sees_34 rfl ?_
    have e : a_sees (G, S0, now, late, risk, A, L, sq, nl, rf, hr, lg, w, tp) x0 x1 = -1 := by simp only [a_sees, ec0]
    rw [e] at h
    exact h
  rcases xix_cases x1 (n := gN G) (by omega) with ⟨ec1, hc1⟩ | ⟨k1, hk1, rfl, ec1⟩
  · skip
    refine xi_aload_n dX10_sees_0 rfl ?_
    refine xi_iload_n dX10_sees_1 rfl ?_
    refine xi_callV [.int (nI k0)] [] dX10_sees_2 zX10_isPlayer mlX10_272 mm0 rfl rfl rfl rfl rfl (Nat.le_of_ble_eq_true rfl) (Nat.le_of_ble_eq_true rfl) ⟨by decide, by decide⟩ ?_
    refine n_isPT hW hG (k := k0) (by omega) ?_
    show WP _ _ 5 _ [.int (xb true)] _ _
    refine xb_if_eq true 16 dX10_sees_5 (by decide) rfl (fun z => absurd z (by decide)) (fun _ => ?_)
    refine xi_aload_n dX10_sees_8 rfl ?_
    refine xi_iload_n dX10_sees_9 rfl ?_
    refine xi_callV [.int x1] [] dX10_sees_10 zX10_isCell mlX10_141 mm0 rfl rfl rfl rfl rfl (Nat.le_of_ble_eq_true rfl) (Nat.le_of_ble_eq_true rfl) ⟨by decide, by decide⟩ ?_
    refine n_isCF hW hG hc1 ?_
    show WP _ _ 13 _ [.int (xb false)] _ _
    refine xb_if_ne false 20 dX10_sees_13 (by decide) rfl (fun z => absurd z (by decide)) (fun _ => ?_)
    refine xi_iconst (v := (-1)) dX10_sees_16 rfl ?_
    refine xi_goto 34 dX10_sees_17 (by decide) ?_
    refine xi_iret (v := (-1)) dX10_sees_34 rfl ?_
    have e : a_sees (G, S0, now, late, risk, A, L, sq, nl, rf, hr, lg, w, tp) (nI k0) x1 = -1 := by simp only [a_sees, ec0, ec1]
    rw [e] at h
    exact h
  refine xi_aload_n dX10_sees_0 rfl ?_
  refine xi_iload_n dX10_sees_1 rfl ?_
  refine xi_callV [.int (nI k0)] [] dX10_sees_2 zX10_isPlayer mlX10_272 mm0 rfl rfl rfl rfl rfl (Nat.le_of_ble_eq_true rfl) (Nat.le_of_ble_eq_true rfl) ⟨by decide, by decide⟩ ?_
  refine n_isPT hW hG (k := k0) (by omega) ?_
  show WP _ _ 5 _ [.int (xb true)] _ _
  refine xb_if_eq true 16 dX10_sees_5 (by decide) rfl (fun z => absurd z (by decide)) (fun _ => ?_)
  refine xi_aload_n dX10_sees_8 rfl ?_
  refine xi_iload_n dX10_sees_9 rfl ?_
  refine xi_callV [.int (nI k1)] [] dX10_sees_10 zX10_isCell mlX10_141 mm0 rfl rfl rfl rfl rfl (Nat.le_of_ble_eq_true rfl) (Nat.le_of_ble_eq_true rfl) ⟨by decide, by decide⟩ ?_
  refine n_isCT hW hG (k := k1) (by omega) ?_
  show WP _ _ 13 _ [.int (xb true)] _ _
  refine xb_if_ne true 20 dX10_sees_13 (by decide) rfl (fun _ => ?_) (fun z => absurd z (by decide))
  refine xi_aload_n dX10_sees_20 rfl ?_
  refine xi_iload_n dX10_sees_21 rfl ?_
  refine xi_iload_n dX10_sees_22 rfl ?_
  refine xi_callV [.int (nI k0), .int (nI k1)] [] dX10_sees_23 zX10_seesNow mlX10_275 mm0 rfl rfl rfl rfl rfl (Nat.le_of_ble_eq_true rfl) (Nat.le_of_ble_eq_true rfl) ⟨by decide, by decide⟩ ?_
  refine o_seesNow hX hC (p := k0) (k := k1) (by omega) (by omega) ?_
  show WP _ _ 26 _ [.int (xb (mspot G (Zf G A S0 now) k0 k1))] _ _
  refine xb_if_eq (mspot G (Zf G A S0 now) k0 k1) 33 dX10_sees_26 (by decide) rfl (fun h26 => ?_) (fun h26 => ?_)
  · skip
    refine xi_iconst (v := 0) dX10_sees_33 rfl ?_
    refine xi_iret (v := 0) dX10_sees_34 rfl ?_
    simp only [a_sees, ec0, ec1, h26] at h
    exact h
  · skip
    refine xi_iconst (v := 1) dX10_sees_29 rfl ?_
    refine xi_goto 34 dX10_sees_30 (by decide) ?_
    refine xi_iret (v := 1) dX10_sees_34 rfl ?_
    simp only [a_sees, ec0, ec1, h26] at h
    exact h

