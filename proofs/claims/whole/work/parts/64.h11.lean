set_option maxHeartbeats 4000000 in
set_option maxRecDepth 100000 in
theorem c_butA {G : xG} {S0 : xS} {now late risk : Nat} {A : Nat → Nat} {L : Nat → Bool} {sq : Nat → Nat} {nl : Nat} {rf hr : Int32} {lg : xE2} {w : xw} {tp : Nat → xT} {M : xM} {Q : Option Value → xM → Prop} (hX : wX (G, S0, now, late, risk, A, L, sq, nl, rf, hr, lg, w, tp)) (hC : RepC (G, S0, now, late, risk, A, L, sq, nl, rf, hr, lg, w, tp) M) {d lo hi : Nat} (hd : d < 6) (hb : lo ≤ 5 ∧ hi ≤ 5) (hs : (tp d).1 = 0) (h : ∀ M2, RepC (G, S0, now, late, risk, A, L, sq, nl, rf, hr + 1, lg, w, tp) M2 → Q (some (.int (-11))) M2) : WP shC mX9_refuseBut 0 [some (.ref 0), some (.int (nI d)), some (.int (nI lo)), some (.int (nI hi))] [] M Q := by
  obtain ⟨hW, hw0, wn, wl, wr, wA_, wsq, wnl, wmo, wtk, wwt, wtp, wO0, wB0⟩ := id hX
  obtain ⟨b1, b2, b3, b4, b5, b6, b7, b8, b9, wmap, wlink, wk0, wk1, b10, b11, wword⟩ := id hW
  have nb : nl ≤ 2000 := by rw [wnl]; exact mcnt_le 2000
  obtain ⟨hG, hKF, hKR, hL, hKE, hKS, hKW, hKT, hKM⟩ := id hC
  obtain ⟨hno, hla, hri, hnl, hrf, hhr⟩ := id hKM
  have hSn : CS G (Zf G A S0 now) M (61 + 10 * (now % 16)) := hKR.1 now (by omega) (by omega)
  have hwn : wS G (Zf G A S0 now) := wS_Zf hW hw0 now
  obtain ⟨wt1, wt2, wt3, wt4⟩ := wtp d
  refine xi_iload_n dX9_refuseBut_0 rfl ?_
  refine xi_callS [.int (nI d)] [] dX9_refuseBut_1 zX9_isTape mlX9_363 rfl rfl rfl (Nat.le_of_ble_eq_true rfl) (Nat.le_of_ble_eq_true rfl) ⟨by decide, by decide⟩ ?_
  refine g_isTpT (k := d) (by omega) ?_
  show WP _ _ 4 _ [.int (xb true)] _ _
  refine xb_if_ne true 9 dX9_refuseBut_4 (by decide) rfl (fun _ => ?_) (fun z => absurd z (by decide))
  refine xi_aload_n dX9_refuseBut_9 rfl ?_
  refine xi_getR dX9_refuseBut_10 fgX9_60 cc0 rfl ?_
  refine xi_iload_n dX9_refuseBut_13 rfl ?_
  refine xe_aald6 (j := (43 + 3 * d)) d dX9_refuseBut_14 cc21 (by decide) rfl (by omega) (if_pos (by omega)) ?_
  refine xe_getI (v := nI ((tp d).1)) dX9_refuseBut_15 fgX9_366 (tpo (isTp_d (d := d) (by omega))) rfl (hKT d (by omega)).1 ?_
  refine xn_if_ne ((tp d).1) 28 dX9_refuseBut_18 (by decide) rfl (by omega) (fun z => absurd z (by omega)) (fun h18 => ?_)
  refine xi_aload_n dX9_refuseBut_21 rfl ?_
  refine xi_bipush (v := (-11)) dX9_refuseBut_22 (by decide) ?_
  refine xi_callV [.int (-11)] [] dX9_refuseBut_24 zX9_refuse mlX9_369 cc0 rfl rfl rfl rfl rfl (Nat.le_of_ble_eq_true rfl) (Nat.le_of_ble_eq_true rfl) ⟨by decide, by decide⟩ ?_
  refine c_refuse (x := (-11)) hhr ?_
  show WP _ _ 27 _ [.int (-11)] _ _
  refine xi_iret (v := (-11)) dX9_refuseBut_27 rfl ?_
  exact h _ (RepC_ref hC)

set_option maxHeartbeats 4000000 in
set_option maxRecDepth 100000 in
theorem c_butB {G : xG} {S0 : xS} {now late risk : Nat} {A : Nat → Nat} {L : Nat → Bool} {sq : Nat → Nat} {nl : Nat} {rf hr : Int32} {lg : xE2} {w : xw} {tp : Nat → xT} {M : xM} {Q : Option Value → xM → Prop} (hX : wX (G, S0, now, late, risk, A, L, sq, nl, rf, hr, lg, w, tp)) (hC : RepC (G, S0, now, late, risk, A, L, sq, nl, rf, hr, lg, w, tp) M) {d lo hi : Nat} (hd : d < 6) (hb : lo ≤ 5 ∧ hi ≤ 5) (hs : ¬ (tp d).1 = 0) (h2 : (tp d).1 < lo ∨ hi < (tp d).1) (h : ∀ M2, RepC (G, S0, now, late, risk, A, L, sq, nl, rf, hr + 1, lg, w, tp) M2 → Q (some (.int (-12))) M2) : WP shC mX9_refuseBut 0 [some (.ref 0), some (.int (nI d)), some (.int (nI lo)), some (.int (nI hi))] [] M Q := by
  obtain ⟨hW, hw0, wn, wl, wr, wA_, wsq, wnl, wmo, wtk, wwt, wtp, wO0, wB0⟩ := id hX
  obtain ⟨b1, b2, b3, b4, b5, b6, b7, b8, b9, wmap, wlink, wk0, wk1, b10, b11, wword⟩ := id hW
  have nb : nl ≤ 2000 := by rw [wnl]; exact mcnt_le 2000
  obtain ⟨hG, hKF, hKR, hL, hKE, hKS, hKW, hKT, hKM⟩ := id hC
  obtain ⟨hno, hla, hri, hnl, hrf, hhr⟩ := id hKM
  have hSn : CS G (Zf G A S0 now) M (61 + 10 * (now % 16)) := hKR.1 now (by omega) (by omega)
  have hwn : wS G (Zf G A S0 now) := wS_Zf hW hw0 now
  obtain ⟨wt1, wt2, wt3, wt4⟩ := wtp d
  refine xi_iload_n dX9_refuseBut_0 rfl ?_
  refine xi_callS [.int (nI d)] [] dX9_refuseBut_1 zX9_isTape mlX9_363 rfl rfl rfl (Nat.le_of_ble_eq_true rfl) (Nat.le_of_ble_eq_true rfl) ⟨by decide, by decide⟩ ?_
  refine g_isTpT (k := d) (by omega) ?_
  show WP _ _ 4 _ [.int (xb true)] _ _
  refine xb_if_ne true 9 dX9_refuseBut_4 (by decide) rfl (fun _ => ?_) (fun z => absurd z (by decide))
  refine xi_aload_n dX9_refuseBut_9 rfl ?_
  refine xi_getR dX9_refuseBut_10 fgX9_60 cc0 rfl ?_
  refine xi_iload_n dX9_refuseBut_13 rfl ?_
  refine xe_aald6 (j := (43 + 3 * d)) d dX9_refuseBut_14 cc21 (by decide) rfl (by omega) (if_pos (by omega)) ?_
  refine xe_getI (v := nI ((tp d).1)) dX9_refuseBut_15 fgX9_366 (tpo (isTp_d (d := d) (by omega))) rfl (hKT d (by omega)).1 ?_
  refine xn_if_ne ((tp d).1) 28 dX9_refuseBut_18 (by decide) rfl (by omega) (fun h18 => ?_) (fun z => absurd z (by omega))
  refine xi_aload_n dX9_refuseBut_28 rfl ?_
  refine xi_getR dX9_refuseBut_29 fgX9_60 cc0 rfl ?_
  refine xi_iload_n dX9_refuseBut_32 rfl ?_
  refine xe_aald6 (j := (43 + 3 * d)) d dX9_refuseBut_33 cc21 (by decide) rfl (by omega) (if_pos (by omega)) ?_
  refine xat 34 rfl ?_
  refine xe_getI (v := nI ((tp d).1)) dX9_refuseBut_34 fgX9_366 (tpo (isTp_d (d := d) (by omega))) rfl (hKT d (by omega)).1 ?_
  refine xi_iload_n dX9_refuseBut_37 rfl ?_
  refine xn_icmp_lt ((tp d).1) lo 54 dX9_refuseBut_38 (by decide) rfl rfl (by omega) (by omega) (fun h38 => ?_) (fun h38 => ?_)
  · skip
    refine xi_aload_n dX9_refuseBut_54 rfl ?_
    refine xi_bipush (v := (-12)) dX9_refuseBut_55 (by decide) ?_
    refine xi_callV [.int (-12)] [] dX9_refuseBut_57 zX9_refuse mlX9_369 cc0 rfl rfl rfl rfl rfl (Nat.le_of_ble_eq_true rfl) (Nat.le_of_ble_eq_true rfl) ⟨by decide, by decide⟩ ?_
    refine c_refuse (x := (-12)) hhr ?_
    show WP _ _ 60 _ [.int (-12)] _ _
    refine xi_goto 64 dX9_refuseBut_60 (by decide) ?_
    refine xi_iret (v := (-12)) dX9_refuseBut_64 rfl ?_
    exact h _ (RepC_ref hC)
  · skip
    refine xi_aload_n dX9_refuseBut_41 rfl ?_
    refine xi_getR dX9_refuseBut_42 fgX9_60 cc0 rfl ?_
    refine xi_iload_n dX9_refuseBut_45 rfl ?_
    refine xe_aald6 (j := (43 + 3 * d)) d dX9_refuseBut_46 cc21 (by decide) rfl (by omega) (if_pos (by omega)) ?_
    refine xe_getI (v := nI ((tp d).1)) dX9_refuseBut_47 fgX9_366 (tpo (isTp_d (d := d) (by omega))) rfl (hKT d (by omega)).1 ?_
    refine xi_iload_n dX9_refuseBut_50 rfl ?_
    refine xn_icmp_le ((tp d).1) hi 63 dX9_refuseBut_51 (by decide) rfl rfl (by omega) (by omega) (fun h51 => ?_) (fun h51 => ?_)
    · omega
    · skip
      refine xi_aload_n dX9_refuseBut_54 rfl ?_
      refine xi_bipush (v := (-12)) dX9_refuseBut_55 (by decide) ?_
      refine xi_callV [.int (-12)] [] dX9_refuseBut_57 zX9_refuse mlX9_369 cc0 rfl rfl rfl rfl rfl (Nat.le_of_ble_eq_true rfl) (Nat.le_of_ble_eq_true rfl) ⟨by decide, by decide⟩ ?_
      refine c_refuse (x := (-12)) hhr ?_
      show WP _ _ 60 _ [.int (-12)] _ _
      refine xi_goto 64 dX9_refuseBut_60 (by decide) ?_
      refine xi_iret (v := (-12)) dX9_refuseBut_64 rfl ?_
      exact h _ (RepC_ref hC)

set_option maxHeartbeats 4000000 in
set_option maxRecDepth 100000 in
theorem c_butC {G : xG} {S0 : xS} {now late risk : Nat} {A : Nat → Nat} {L : Nat → Bool} {sq : Nat → Nat} {nl : Nat} {rf hr : Int32} {lg : xE2} {w : xw} {tp : Nat → xT} {M : xM} {Q : Option Value → xM → Prop} (hX : wX (G, S0, now, late, risk, A, L, sq, nl, rf, hr, lg, w, tp)) (hC : RepC (G, S0, now, late, risk, A, L, sq, nl, rf, hr, lg, w, tp) M) {d lo hi : Nat} (hd : d < 6) (hb : lo ≤ 5 ∧ hi ≤ 5) (hs : ¬ (tp d).1 = 0) (h2 : lo ≤ (tp d).1 ∧ (tp d).1 ≤ hi) (h : Q (some (.int 0)) M) : WP shC mX9_refuseBut 0 [some (.ref 0), some (.int (nI d)), some (.int (nI lo)), some (.int (nI hi))] [] M Q := by
  obtain ⟨hW, hw0, wn, wl, wr, wA_, wsq, wnl, wmo, wtk, wwt, wtp, wO0, wB0⟩ := id hX
  obtain ⟨b1, b2, b3, b4, b5, b6, b7, b8, b9, wmap, wlink, wk0, wk1, b10, b11, wword⟩ := id hW
  have nb : nl ≤ 2000 := by rw [wnl]; exact mcnt_le 2000
  obtain ⟨hG, hKF, hKR, hL, hKE, hKS, hKW, hKT, hKM⟩ := id hC
  obtain ⟨hno, hla, hri, hnl, hrf, hhr⟩ := id hKM
  have hSn : CS G (Zf G A S0 now) M (61 + 10 * (now % 16)) := hKR.1 now (by omega) (by omega)
  have hwn : wS G (Zf G A S0 now) := wS_Zf hW hw0 now
  obtain ⟨wt1, wt2, wt3, wt4⟩ := wtp d
  refine xi_iload_n dX9_refuseBut_0 rfl ?_
  refine xi_callS [.int (nI d)] [] dX9_refuseBut_1 zX9_isTape mlX9_363 rfl rfl rfl (Nat.le_of_ble_eq_true rfl) (Nat.le_of_ble_eq_true rfl) ⟨by decide, by decide⟩ ?_
  refine g_isTpT (k := d) (by omega) ?_
  show WP _ _ 4 _ [.int (xb true)] _ _
  refine xb_if_ne true 9 dX9_refuseBut_4 (by decide) rfl (fun _ => ?_) (fun z => absurd z (by decide))
  refine xi_aload_n dX9_refuseBut_9 rfl ?_
  refine xi_getR dX9_refuseBut_10 fgX9_60 cc0 rfl ?_
  refine xi_iload_n dX9_refuseBut_13 rfl ?_
  refine xe_aald6 (j := (43 + 3 * d)) d dX9_refuseBut_14 cc21 (by decide) rfl (by omega) (if_pos (by omega)) ?_
  refine xe_getI (v := nI ((tp d).1)) dX9_refuseBut_15 fgX9_366 (tpo (isTp_d (d := d) (by omega))) rfl (hKT d (by omega)).1 ?_
  refine xn_if_ne ((tp d).1) 28 dX9_refuseBut_18 (by decide) rfl (by omega) (fun h18 => ?_) (fun z => absurd z (by omega))
  refine xi_aload_n dX9_refuseBut_28 rfl ?_
  refine xi_getR dX9_refuseBut_29 fgX9_60 cc0 rfl ?_
  refine xi_iload_n dX9_refuseBut_32 rfl ?_
  refine xe_aald6 (j := (43 + 3 * d)) d dX9_refuseBut_33 cc21 (by decide) rfl (by omega) (if_pos (by omega)) ?_
  refine xat 34 rfl ?_
  refine xe_getI (v := nI ((tp d).1)) dX9_refuseBut_34 fgX9_366 (tpo (isTp_d (d := d) (by omega))) rfl (hKT d (by omega)).1 ?_
  refine xi_iload_n dX9_refuseBut_37 rfl ?_
  refine xn_icmp_lt ((tp d).1) lo 54 dX9_refuseBut_38 (by decide) rfl rfl (by omega) (by omega) (fun z => absurd z (by omega)) (fun h38 => ?_)
  refine xi_aload_n dX9_refuseBut_41 rfl ?_
  refine xi_getR dX9_refuseBut_42 fgX9_60 cc0 rfl ?_
  refine xi_iload_n dX9_refuseBut_45 rfl ?_
  refine xe_aald6 (j := (43 + 3 * d)) d dX9_refuseBut_46 cc21 (by decide) rfl (by omega) (if_pos (by omega)) ?_
  refine xe_getI (v := nI ((tp d).1)) dX9_refuseBut_47 fgX9_366 (tpo (isTp_d (d := d) (by omega))) rfl (hKT d (by omega)).1 ?_
  refine xi_iload_n dX9_refuseBut_50 rfl ?_
  refine xn_icmp_le ((tp d).1) hi 63 dX9_refuseBut_51 (by decide) rfl rfl (by omega) (by omega) (fun h51 => ?_) (fun z => absurd z (by omega))
  refine xi_iconst (v := 0) dX9_refuseBut_63 rfl ?_
  refine xi_iret (v := 0) dX9_refuseBut_64 rfl ?_
  exact h

set_option maxHeartbeats 4000000 in
set_option maxRecDepth 100000 in
theorem c_but0 {M : xM} {Q : Option Value → xM → Prop} {x : Int32} {lo hi : Nat} (hc : x < 0 ∨ nI 6 ≤ x) (h : Q (some (.int (-1))) M) : WP shC mX9_refuseBut 0 [some (.ref 0), some (.int x), some (.int (nI lo)), some (.int (nI hi))] [] M Q := by
  refine xi_iload_n dX9_refuseBut_0 rfl ?_
  refine xi_callS [.int x] [] dX9_refuseBut_1 zX9_isTape mlX9_363 rfl rfl rfl (Nat.le_of_ble_eq_true rfl) (Nat.le_of_ble_eq_true rfl) ⟨by decide, by decide⟩ ?_
  refine g_isTpF hc ?_
  show WP _ _ 4 _ [.int (xb false)] _ _
  refine xb_if_ne false 9 dX9_refuseBut_4 (by decide) rfl (fun z => absurd z (by decide)) (fun _ => ?_)
  refine xi_iconst (v := (-1)) dX9_refuseBut_7 rfl ?_
  refine xi_iret (v := (-1)) dX9_refuseBut_8 rfl ?_
  exact h

set_option maxHeartbeats 4000000 in
set_option maxRecDepth 100000 in
theorem cl_clear {X : xX} {M : xM} {Q : Option Value → xM → Prop} (hX : wX X) (hC : RepC X M) (x0 : Int32) (h : ∀ M2, RepC (st_clear X x0).2 M2 → Q (some (.int (st_clear X x0).1)) M2) : WP shC mX9_clear 0 [some (.ref 0), some (.int x0), none] [] M Q := by
  obtain ⟨G, S0, now, late, risk, A, L, sq, nl, rf, hr, lg, w, tp⟩ := X
  obtain ⟨hW, hw0, wn, wl, wr, wA_, wsq, wnl, wmo, wtk, wwt, wtp, wO0, wB0⟩ := id hX
  obtain ⟨b1, b2, b3, b4, b5, b6, b7, b8, b9, wmap, wlink, wk0, wk1, b10, b11, wword⟩ := id hW
  have nb : nl ≤ 2000 := by rw [wnl]; exact mcnt_le 2000
  obtain ⟨hG, hKF, hKR, hL, hKE, hKS, hKW, hKT, hKM⟩ := id hC
  obtain ⟨hno, hla, hri, hnl, hrf, hhr⟩ := id hKM
  have hSn : CS G (Zf G A S0 now) M (61 + 10 * (now % 16)) := hKR.1 now (by omega) (by omega)
  have hwn : wS G (Zf G A S0 now) := wS_Zf hW hw0 now
  rcases xix_cases x0 (n := 6) (by omega) with ⟨ec0, hc0⟩ | ⟨k0, hk0, rfl, ec0⟩
  · skip
    refine xi_iload_n dX9_clear_0 rfl ?_
    refine xi_callS [.int x0] [] dX9_clear_1 zX9_isTape mlX9_363 rfl rfl rfl (Nat.le_of_ble_eq_true rfl) (Nat.le_of_ble_eq_true rfl) ⟨by decide, by decide⟩ ?_
    refine g_isTpF hc0 ?_
    show WP _ _ 4 _ [.int (xb false)] _ _
    refine xb_if_ne false 9 dX9_clear_4 (by decide) rfl (fun z => absurd z (by decide)) (fun _ => ?_)
    refine xi_iconst (v := (-1)) dX9_clear_7 rfl ?_
    refine xi_iret (v := (-1)) dX9_clear_8 rfl ?_
    have e : st_clear (G, S0, now, late, risk, A, L, sq, nl, rf, hr, lg, w, tp) x0 = (-1, (G, S0, now, late, risk, A, L, sq, nl, rf, hr, lg, w, tp)) := by simp only [st_clear, ec0]
    rw [e] at h
    exact h M hC
  refine xi_iload_n dX9_clear_0 rfl ?_
  refine xi_callS [.int (nI k0)] [] dX9_clear_1 zX9_isTape mlX9_363 rfl rfl rfl (Nat.le_of_ble_eq_true rfl) (Nat.le_of_ble_eq_true rfl) ⟨by decide, by decide⟩ ?_
  refine g_isTpT (k := k0) (by omega) ?_
  show WP _ _ 4 _ [.int (xb true)] _ _
  refine xb_if_ne true 9 dX9_clear_4 (by decide) rfl (fun _ => ?_) (fun z => absurd z (by decide))
  refine xi_aload_n dX9_clear_9 rfl ?_
  refine xi_getR dX9_clear_10 fgX9_60 cc0 rfl ?_
  refine xi_iload_n dX9_clear_13 rfl ?_
  refine xe_aald6 (j := (43 + 3 * k0)) k0 dX9_clear_14 cc21 (by decide) rfl (by omega) (if_pos (by omega)) ?_
  refine xe_getI (v := nI ((tp k0).1)) dX9_clear_15 fgX9_366 (tpo (isTp_d (d := k0) (by omega))) rfl (hKT k0 (by omega)).1 ?_
  refine xi_istore_n (lv' := [some (.ref 0), some (.int (nI k0)), some (.int (nI ((tp k0).1)))]) dX9_clear_18 (by decide) rfl ?_
  refine xi_aload_n dX9_clear_19 rfl ?_
  refine xi_getR dX9_clear_20 fgX9_60 cc0 rfl ?_
  refine xi_iload_n dX9_clear_23 rfl ?_
  refine xe_aald6 (j := (43 + 3 * k0)) k0 dX9_clear_24 cc21 (by decide) rfl (by omega) (if_pos (by omega)) ?_
  refine xat 25 rfl ?_
  refine xi_iconst (v := 0) dX9_clear_25 rfl ?_
  refine xi_put dX9_clear_26 fpX9_366 (tpo (isTp_d (d := k0) (by omega))) rfl ?_
  refine xi_iload_n dX9_clear_29 rfl ?_
  refine xi_iret (v := nI ((tp k0).1)) dX9_clear_30 rfl ?_
  simp only [st_clear, ec0] at h
  have q0 := hKT k0 hk0
  exact h _ (RepC_tp hC hk0 (sC2.xf (by omega)) (sC2.xf (by omega)) ⟨xf_s, (xf_k (by decide)).trans q0.2.1, (xf_k (by decide)).trans q0.2.2.1, q0.2.2.2.1, q0.2.2.2.2⟩)

set_option maxHeartbeats 4000000 in
set_option maxRecDepth 100000 in
theorem cl_tape {X : xX} {M : xM} {Q : Option Value → xM → Prop} (hX : wX X) (hC : RepC X M) (x0 : Int32) (x1 : Int32) (x2 : Int32) (h : ∀ M2, RepC (st_tape X x0 x1 x2).2 M2 → Q (some (.int (st_tape X x0 x1 x2).1)) M2) : WP shC mX9_tape 0 [some (.ref 0), some (.int x0), some (.int x1), some (.int x2)] [] M Q := by
  obtain ⟨G, S0, now, late, risk, A, L, sq, nl, rf, hr, lg, w, tp⟩ := X
  obtain ⟨hW, hw0, wn, wl, wr, wA_, wsq, wnl, wmo, wtk, wwt, wtp, wO0, wB0⟩ := id hX
  obtain ⟨b1, b2, b3, b4, b5, b6, b7, b8, b9, wmap, wlink, wk0, wk1, b10, b11, wword⟩ := id hW
  have nb : nl ≤ 2000 := by rw [wnl]; exact mcnt_le 2000
  obtain ⟨hG, hKF, hKR, hL, hKE, hKS, hKW, hKT, hKM⟩ := id hC
  obtain ⟨hno, hla, hri, hnl, hrf, hhr⟩ := id hKM
  have hSn : CS G (Zf G A S0 now) M (61 + 10 * (now % 16)) := hKR.1 now (by omega) (by omega)
  have hwn : wS G (Zf G A S0 now) := wS_Zf hW hw0 now
  rcases xix_cases x0 (n := 6) (by omega) with ⟨ec0, hc0⟩ | ⟨k0, hk0, rfl, ec0⟩
  · skip
    refine xi_iload_n dX9_tape_0 rfl ?_
    refine xi_callS [.int x0] [] dX9_tape_1 zX9_isTape mlX9_363 rfl rfl rfl (Nat.le_of_ble_eq_true rfl) (Nat.le_of_ble_eq_true rfl) ⟨by decide, by decide⟩ ?_
    refine g_isTpF hc0 ?_
    show WP _ _ 4 _ [.int (xb false)] _ _
    refine xb_if_eq false 23 dX9_tape_4 (by decide) rfl (fun _ => ?_) (fun z => absurd z (by decide))
    refine xi_iconst (v := (-1)) dX9_tape_23 rfl ?_
    refine xi_iret (v := (-1)) dX9_tape_24 rfl ?_
    have e : st_tape (G, S0, now, late, risk, A, L, sq, nl, rf, hr, lg, w, tp) x0 x1 x2 = (-1, (G, S0, now, late, risk, A, L, sq, nl, rf, hr, lg, w, tp)) := by simp only [st_tape, ec0]
    rw [e] at h
    exact h M hC
  rcases xrg_cases x1 (lo := 1) (hi := 4) (by omega) (by omega) with ⟨ec1, hc1⟩ | ⟨k1, hk1, hl1, rfl, ec1⟩
  · skip
    refine xi_iload_n dX9_tape_0 rfl ?_
    refine xi_callS [.int (nI k0)] [] dX9_tape_1 zX9_isTape mlX9_363 rfl rfl rfl (Nat.le_of_ble_eq_true rfl) (Nat.le_of_ble_eq_true rfl) ⟨by decide, by decide⟩ ?_
    refine g_isTpT (k := k0) (by omega) ?_
    show WP _ _ 4 _ [.int (xb true)] _ _
    refine xb_if_eq true 23 dX9_tape_4 (by decide) rfl (fun z => absurd z (by decide)) (fun _ => ?_)
    refine xi_iload_n dX9_tape_7 rfl ?_
    refine xi_iconst (v := 1) dX9_tape_8 rfl ?_
    refine xi_icmp_lt 23 dX9_tape_9 (by decide) (fun h9 => ?_) (fun h9 => ?_)
    · skip
      refine xi_iconst (v := (-1)) dX9_tape_23 rfl ?_
      refine xi_iret (v := (-1)) dX9_tape_24 rfl ?_
      have e : st_tape (G, S0, now, late, risk, A, L, sq, nl, rf, hr, lg, w, tp) (nI k0) x1 x2 = (-1, (G, S0, now, late, risk, A, L, sq, nl, rf, hr, lg, w, tp)) := by simp only [st_tape, ec0, ec1]
      rw [e] at h
      exact h M hC
    · skip
      refine xi_iload_n dX9_tape_12 rfl ?_
      refine xi_iconst (v := 4) dX9_tape_13 rfl ?_
      refine xi_icmp_gt 23 dX9_tape_14 (by decide) (fun h14 => ?_) (fun z => hc1.elim (fun q => absurd q h9) (fun q => absurd q z))
      refine xi_iconst (v := (-1)) dX9_tape_23 rfl ?_
      refine xi_iret (v := (-1)) dX9_tape_24 rfl ?_
      have e : st_tape (G, S0, now, late, risk, A, L, sq, nl, rf, hr, lg, w, tp) (nI k0) x1 x2 = (-1, (G, S0, now, late, risk, A, L, sq, nl, rf, hr, lg, w, tp)) := by simp only [st_tape, ec0, ec1]
      rw [e] at h
      exact h M hC
  rcases xrg_cases x2 (lo := 0) (hi := 80) (by omega) (by omega) with ⟨ec2, hc2⟩ | ⟨k2, hk2, hl2, rfl, ec2⟩
  · rcases hc2 with hc2 | hc2
    · skip
      refine xi_iload_n dX9_tape_0 rfl ?_
      refine xi_callS [.int (nI k0)] [] dX9_tape_1 zX9_isTape mlX9_363 rfl rfl rfl (Nat.le_of_ble_eq_true rfl) (Nat.le_of_ble_eq_true rfl) ⟨by decide, by decide⟩ ?_
      refine g_isTpT (k := k0) (by omega) ?_
      show WP _ _ 4 _ [.int (xb true)] _ _
      refine xb_if_eq true 23 dX9_tape_4 (by decide) rfl (fun z => absurd z (by decide)) (fun _ => ?_)
      refine xi_iload_n dX9_tape_7 rfl ?_
      refine xi_iconst (v := 1) dX9_tape_8 rfl ?_
      refine xn_icmp_lt k1 1 23 dX9_tape_9 (by decide) rfl rfl (by omega) (by omega) (fun z => absurd z (by omega)) (fun h9 => ?_)
      refine xi_iload_n dX9_tape_12 rfl ?_
      refine xi_iconst (v := 4) dX9_tape_13 rfl ?_
      refine xn_icmp_gt k1 4 23 dX9_tape_14 (by decide) rfl rfl (by omega) (by omega) (fun z => absurd z (by omega)) (fun h14 => ?_)
      refine xi_iload_n dX9_tape_17 rfl ?_
      refine xi_bipush (v := 80) dX9_tape_18 (by decide) ?_
      refine xi_icmp_le 25 dX9_tape_20 (by decide) (fun h20 => ?_) (fun h20 => ?_)
      · skip
        refine xi_iload_n dX9_tape_25 rfl ?_
        refine xi_if_ge 36 dX9_tape_26 (by decide) (fun h26 => ?_) (fun h26 => ?_)
        · exact absurd hc2 (Int32.not_lt.mpr h26)
        · skip
          refine xi_aload_n dX9_tape_29 rfl ?_
          refine xi_bipush (v := (-14)) dX9_tape_30 (by decide) ?_
          refine xi_callV [.int (-14)] [] dX9_tape_32 zX9_refuse mlX9_369 cc0 rfl rfl rfl rfl rfl (Nat.le_of_ble_eq_true rfl) (Nat.le_of_ble_eq_true rfl) ⟨by decide, by decide⟩ ?_
          refine c_refuse (x := (-14)) hhr ?_
          show WP _ _ 35 _ [.int (-14)] _ _
          refine xi_iret (v := (-14)) dX9_tape_35 rfl ?_
          simp only [st_tape, ec0, ec1] at h
          rw [if_neg (fun q => absurd (Int32.lt_trans q hc2) (by decide)), xrg_no (Or.inl hc2)] at h
          exact h _ (RepC_ref hC)
      · exact absurd (Int32.le_of_lt (Int32.lt_trans hc2 (by decide))) h20
    · skip
      refine xi_iload_n dX9_tape_0 rfl ?_
      refine xi_callS [.int (nI k0)] [] dX9_tape_1 zX9_isTape mlX9_363 rfl rfl rfl (Nat.le_of_ble_eq_true rfl) (Nat.le_of_ble_eq_true rfl) ⟨by decide, by decide⟩ ?_
      refine g_isTpT (k := k0) (by omega) ?_
      show WP _ _ 4 _ [.int (xb true)] _ _
      refine xb_if_eq true 23 dX9_tape_4 (by decide) rfl (fun z => absurd z (by decide)) (fun _ => ?_)
      refine xi_iload_n dX9_tape_7 rfl ?_
      refine xi_iconst (v := 1) dX9_tape_8 rfl ?_
      refine xn_icmp_lt k1 1 23 dX9_tape_9 (by decide) rfl rfl (by omega) (by omega) (fun z => absurd z (by omega)) (fun h9 => ?_)
      refine xi_iload_n dX9_tape_12 rfl ?_
      refine xi_iconst (v := 4) dX9_tape_13 rfl ?_
      refine xn_icmp_gt k1 4 23 dX9_tape_14 (by decide) rfl rfl (by omega) (by omega) (fun z => absurd z (by omega)) (fun h14 => ?_)
      refine xi_iload_n dX9_tape_17 rfl ?_
      refine xi_bipush (v := 80) dX9_tape_18 (by decide) ?_
      refine xi_icmp_le 25 dX9_tape_20 (by decide) (fun h20 => ?_) (fun h20 => ?_)
      · exact absurd hc2 (Int32.not_lt.mpr h20)
      · skip
        refine xi_iconst (v := (-1)) dX9_tape_23 rfl ?_
        refine xi_iret (v := (-1)) dX9_tape_24 rfl ?_
        simp only [st_tape, ec0, ec1] at h
        rw [if_pos hc2] at h
        exact h M hC
  refine xi_iload_n dX9_tape_0 rfl ?_
  refine xi_callS [.int (nI k0)] [] dX9_tape_1 zX9_isTape mlX9_363 rfl rfl rfl (Nat.le_of_ble_eq_true rfl) (Nat.le_of_ble_eq_true rfl) ⟨by decide, by decide⟩ ?_
  refine g_isTpT (k := k0) (by omega) ?_
  show WP _ _ 4 _ [.int (xb true)] _ _
  refine xb_if_eq true 23 dX9_tape_4 (by decide) rfl (fun z => absurd z (by decide)) (fun _ => ?_)
  refine xi_iload_n dX9_tape_7 rfl ?_
  refine xi_iconst (v := 1) dX9_tape_8 rfl ?_
  refine xn_icmp_lt k1 1 23 dX9_tape_9 (by decide) rfl rfl (by omega) (by omega) (fun z => absurd z (by omega)) (fun h9 => ?_)
  refine xi_iload_n dX9_tape_12 rfl ?_
  refine xi_iconst (v := 4) dX9_tape_13 rfl ?_
  refine xn_icmp_gt k1 4 23 dX9_tape_14 (by decide) rfl rfl (by omega) (by omega) (fun z => absurd z (by omega)) (fun h14 => ?_)
  refine xi_iload_n dX9_tape_17 rfl ?_
  refine xi_bipush (v := 80) dX9_tape_18 (by decide) ?_
  refine xn_icmp_le k2 80 25 dX9_tape_20 (by decide) rfl rfl (by omega) (by omega) (fun h20 => ?_) (fun z => absurd z (by omega))
  refine xi_iload_n dX9_tape_25 rfl ?_
  refine xat 26 rfl ?_
  refine xn_if_ge k2 36 dX9_tape_26 (by decide) rfl (by omega) ?_
  refine xi_aload_n dX9_tape_36 rfl ?_
  refine xi_getR dX9_tape_37 fgX9_60 cc0 rfl ?_
  refine xi_iload_n dX9_tape_40 rfl ?_
  refine xe_aald6 (j := (43 + 3 * k0)) k0 dX9_tape_41 cc21 (by decide) rfl (by omega) (if_pos (by omega)) ?_
  refine xi_iload_n dX9_tape_42 rfl ?_
  refine xi_iload_n dX9_tape_43 rfl ?_
  refine xi_callV [.int (nI k1), .int (nI k2)] [] dX9_tape_44 zX8_holdRow mlX9_372 (tpo (isTp_d (d := k0) (by omega))) rfl rfl rfl rfl rfl (Nat.le_of_ble_eq_true rfl) (Nat.le_of_ble_eq_true rfl) ⟨by decide, by decide⟩ ?_
  refine t_holdRow (s := k1) (n := k2) (isTp_d hk0) (hKT k0 hk0) (fun M2 F2 z2 => ?_)
  show WP _ _ 47 _ [] _ _
  refine xi_iload_n dX9_tape_47 rfl ?_
  refine xi_iret (v := nI k2) dX9_tape_48 rfl ?_
  simp only [st_tape, ec0, ec1, ec2] at h
  rw [if_neg (nI_nlt hl2 (by omega))] at h
  exact h _ (RepC_tp hC hk0 (fun a q1 q2 => F2 a (by omega)) (fun a q1 q2 => F2 a (by omega)) z2)

set_option maxHeartbeats 4000000 in
set_option maxRecDepth 100000 in
theorem cl_view {X : xX} {M : xM} {Q : Option Value → xM → Prop} (hX : wX X) (hC : RepC X M) (x0 : Int32) (x1 : Int32) (h : ∀ M2, RepC (st_view X x0 x1).2 M2 → Q (some (.int (st_view X x0 x1).1)) M2) : WP shC mX9_view 0 [some (.ref 0), some (.int x0), some (.int x1)] [] M Q := by
  obtain ⟨G, S0, now, late, risk, A, L, sq, nl, rf, hr, lg, w, tp⟩ := X
  obtain ⟨hW, hw0, wn, wl, wr, wA_, wsq, wnl, wmo, wtk, wwt, wtp, wO0, wB0⟩ := id hX
  obtain ⟨b1, b2, b3, b4, b5, b6, b7, b8, b9, wmap, wlink, wk0, wk1, b10, b11, wword⟩ := id hW
  have nb : nl ≤ 2000 := by rw [wnl]; exact mcnt_le 2000
  obtain ⟨hG, hKF, hKR, hL, hKE, hKS, hKW, hKT, hKM⟩ := id hC
  obtain ⟨hno, hla, hri, hnl, hrf, hhr⟩ := id hKM
  have hSn : CS G (Zf G A S0 now) M (61 + 10 * (now % 16)) := hKR.1 now (by omega) (by omega)
  have hwn : wS G (Zf G A S0 now) := wS_Zf hW hw0 now
  rcases xix_cases x0 (n := 6) (by omega) with ⟨ec0, hc0⟩ | ⟨k0, hk0, rfl, ec0⟩
  · skip
    refine xi_iload_n dX9_view_0 rfl ?_
    refine xi_callS [.int x0] [] dX9_view_1 zX9_isTape mlX9_363 rfl rfl rfl (Nat.le_of_ble_eq_true rfl) (Nat.le_of_ble_eq_true rfl) ⟨by decide, by decide⟩ ?_
    refine g_isTpF hc0 ?_
    show WP _ _ 4 _ [.int (xb false)] _ _
    refine xb_if_eq false 18 dX9_view_4 (by decide) rfl (fun _ => ?_) (fun z => absurd z (by decide))
    refine xi_iconst (v := (-1)) dX9_view_18 rfl ?_
    refine xi_iret (v := (-1)) dX9_view_19 rfl ?_
    have e : st_view (G, S0, now, late, risk, A, L, sq, nl, rf, hr, lg, w, tp) x0 x1 = (-1, (G, S0, now, late, risk, A, L, sq, nl, rf, hr, lg, w, tp)) := by simp only [st_view, ec0]
    rw [e] at h
    exact h M hC
  rcases xix_cases x1 (n := gP G) (by omega) with ⟨ec1, hc1⟩ | ⟨k1, hk1, rfl, ec1⟩
  · skip
    refine xi_iload_n dX9_view_0 rfl ?_
    refine xi_callS [.int (nI k0)] [] dX9_view_1 zX9_isTape mlX9_363 rfl rfl rfl (Nat.le_of_ble_eq_true rfl) (Nat.le_of_ble_eq_true rfl) ⟨by decide, by decide⟩ ?_
    refine g_isTpT (k := k0) (by omega) ?_
    show WP _ _ 4 _ [.int (xb true)] _ _
    refine xb_if_eq true 18 dX9_view_4 (by decide) rfl (fun z => absurd z (by decide)) (fun _ => ?_)
    refine xi_aload_n dX9_view_7 rfl ?_
    refine xi_getR dX9_view_8 fgX9_10 cc0 rfl ?_
    refine xi_iload_n dX9_view_11 rfl ?_
    refine xi_callV [.int x1] [] dX9_view_12 zX1_hasPlayer mlX9_200 cc1 rfl rfl rfl rfl rfl (Nat.le_of_ble_eq_true rfl) (Nat.le_of_ble_eq_true rfl) ⟨by decide, by decide⟩ ?_
    refine g_hasPF hW hG hc1 ?_
    show WP _ _ 15 _ [.int (xb false)] _ _
    refine xb_if_ne false 20 dX9_view_15 (by decide) rfl (fun z => absurd z (by decide)) (fun _ => ?_)
    refine xi_iconst (v := (-1)) dX9_view_18 rfl ?_
    refine xi_iret (v := (-1)) dX9_view_19 rfl ?_
    have e : st_view (G, S0, now, late, risk, A, L, sq, nl, rf, hr, lg, w, tp) (nI k0) x1 = (-1, (G, S0, now, late, risk, A, L, sq, nl, rf, hr, lg, w, tp)) := by simp only [st_view, ec0, ec1]
    rw [e] at h
    exact h M hC
  refine xi_iload_n dX9_view_0 rfl ?_
  refine xi_callS [.int (nI k0)] [] dX9_view_1 zX9_isTape mlX9_363 rfl rfl rfl (Nat.le_of_ble_eq_true rfl) (Nat.le_of_ble_eq_true rfl) ⟨by decide, by decide⟩ ?_
  refine g_isTpT (k := k0) (by omega) ?_
  show WP _ _ 4 _ [.int (xb true)] _ _
  refine xb_if_eq true 18 dX9_view_4 (by decide) rfl (fun z => absurd z (by decide)) (fun _ => ?_)
  refine xi_aload_n dX9_view_7 rfl ?_
  refine xi_getR dX9_view_8 fgX9_10 cc0 rfl ?_
  refine xi_iload_n dX9_view_11 rfl ?_
  refine xi_callV [.int (nI k1)] [] dX9_view_12 zX1_hasPlayer mlX9_200 cc1 rfl rfl rfl rfl rfl (Nat.le_of_ble_eq_true rfl) (Nat.le_of_ble_eq_true rfl) ⟨by decide, by decide⟩ ?_
  refine g_hasPT hW hG (k := k1) (by omega) ?_
  show WP _ _ 15 _ [.int (xb true)] _ _
  refine xb_if_ne true 20 dX9_view_15 (by decide) rfl (fun _ => ?_) (fun z => absurd z (by decide))
  refine xi_aload_n dX9_view_20 rfl ?_
  refine xi_getR dX9_view_21 fgX9_60 cc0 rfl ?_
  refine xi_iload_n dX9_view_24 rfl ?_
  refine xe_aald6 (j := (43 + 3 * k0)) k0 dX9_view_25 cc21 (by decide) rfl (by omega) (if_pos (by omega)) ?_
  refine xi_aload_n dX9_view_26 rfl ?_
  refine xi_getR dX9_view_27 fgX9_30 cc0 rfl ?_
  refine xi_aload_n dX9_view_30 rfl ?_
  refine xe_getI (v := nI now) dX9_view_31 fgX9_98 cc0 rfl hno ?_
  refine xi_callV [.int (nI now)] [.ref (43 + 3 * k0)] dX9_view_34 zX5_stateAt mlX9_215 cc9 rfl rfl rfl rfl rfl (Nat.le_of_ble_eq_true rfl) (Nat.le_of_ble_eq_true rfl) ⟨by decide, by decide⟩ ?_
  refine g_at9 (t := now) (by omega) ?_
  show WP _ _ 37 _ [.ref (61 + 10 * (now % 16)), .ref (43 + 3 * k0)] _ _
  refine xi_iload_n dX9_view_37 rfl ?_
  refine xi_callV [.ref (61 + 10 * (now % 16)), .int (nI k1)] [] dX9_view_38 zX8_holdView mlX9_375 (tpo (isTp_d (d := k0) (by omega))) rfl rfl rfl rfl rfl (Nat.le_of_ble_eq_true rfl) (Nat.le_of_ble_eq_true rfl) ⟨by decide, by decide⟩ ?_
  refine t_view (S := (Zf G A S0 now)) (p := k1) hW (isTp_d hk0) (isSt_ring now) hwn hk1 hG hSn (hKT k0 hk0) (fun M2 F2 z2 => ?_)
  show WP _ _ 41 _ [] _ _
  refine xi_aload_n dX9_view_41 rfl ?_
  refine xi_getR dX9_view_42 fgX9_60 cc0 rfl ?_
  refine xi_iload_n dX9_view_45 rfl ?_
  refine xe_aald6 (j := (43 + 3 * k0)) k0 dX9_view_46 cc21 (by decide) rfl (by omega) (if_pos (by omega)) ?_
  refine xe_getI (v := nI (mvc (mtell G (Zf G A S0 now) k1) (gN G))) dX9_view_47 fgX9_379 (tpo (isTp_d (d := k0) (by omega))) rfl z2.2.2.1 ?_
  refine xi_iret (v := nI (mvc (mtell G (Zf G A S0 now) k1) (gN G))) dX9_view_50 rfl ?_
  simp only [st_view, ec0, ec1] at h
  exact h _ (RepC_tp hC hk0 (fun a q1 q2 => F2 a (by omega)) (fun a q1 q2 => F2 a (by omega)) z2)

set_option maxHeartbeats 4000000 in
set_option maxRecDepth 100000 in
theorem cl_put {X : xX} {M : xM} {Q : Option Value → xM → Prop} (hX : wX X) (hC : RepC X M) (x0 : Int32) (x1 : Int32) (x2 : Int64) (h : ∀ M2, RepC (st_put X x0 x1 x2).2 M2 → Q (some (.int (st_put X x0 x1 x2).1)) M2) : WP shC mX9_put 0 [some (.ref 0), some (.int x0), some (.int x1), some (.long x2), none, none, none] [] M Q := by
  obtain ⟨G, S0, now, late, risk, A, L, sq, nl, rf, hr, lg, w, tp⟩ := X
  obtain ⟨hW, hw0, wn, wl, wr, wA_, wsq, wnl, wmo, wtk, wwt, wtp, wO0, wB0⟩ := id hX
  obtain ⟨b1, b2, b3, b4, b5, b6, b7, b8, b9, wmap, wlink, wk0, wk1, b10, b11, wword⟩ := id hW
  have nb : nl ≤ 2000 := by rw [wnl]; exact mcnt_le 2000
  obtain ⟨hG, hKF, hKR, hL, hKE, hKS, hKW, hKT, hKM⟩ := id hC
  obtain ⟨hno, hla, hri, hnl, hrf, hhr⟩ := id hKM
  have hSn : CS G (Zf G A S0 now) M (61 + 10 * (now % 16)) := hKR.1 now (by omega) (by omega)
  have hwn : wS G (Zf G A S0 now) := wS_Zf hW hw0 now
  have wtq : ∀ d, (tp d).1 ≤ 5 ∧ (tp d).2.1 ≤ 100 ∧ (1 ≤ (tp d).1 ∧ (tp d).1 ≤ 4 → (tp d).2.1 ≤ 80) := fun d => ⟨(wtp d).1, (wtp d).2.1, (wtp d).2.2.2⟩
  rcases xix_cases x0 (n := 6) (by omega) with ⟨ec0, hc0⟩ | ⟨k0, hk0, rfl, ec0⟩
  · skip
    refine xi_aload_n dX9_put_0 rfl ?_
    refine xi_iload_n dX9_put_1 rfl ?_
    refine xi_iconst (v := 1) dX9_put_2 rfl ?_
    refine xi_iconst (v := 4) dX9_put_3 rfl ?_
    refine xi_callV [.int x0, .int 1, .int 4] [] dX9_put_4 zX9_refuseBut mlX9_382 cc0 rfl rfl rfl rfl rfl (Nat.le_of_ble_eq_true rfl) (Nat.le_of_ble_eq_true rfl) ⟨by decide, by decide⟩ ?_
    refine c_but0 (lo := 1) (hi := 4) hc0 ?_
    show WP _ _ 7 _ [.int (-1)] _ _
    refine xi_istore (lv' := [some (.ref 0), some (.int x0), some (.int x1), some (.long x2), none, some (.int (-1)), none]) dX9_put_7 (by decide) rfl ?_
    refine xi_iload dX9_put_9 rfl ?_
    refine xi_if_ge 17 dX9_put_11 (by decide) (fun z => absurd z (by decide)) (fun _ => ?_)
    refine xi_iload dX9_put_14 rfl ?_
    refine xi_iret (v := (-1)) dX9_put_16 rfl ?_
    have e : st_put (G, S0, now, late, risk, A, L, sq, nl, rf, hr, lg, w, tp) x0 x1 x2 = (-1, (G, S0, now, late, risk, A, L, sq, nl, rf, hr, lg, w, tp)) := by simp only [st_put, ec0]
    rw [e] at h
    exact h M hC
  have z0 := wtq k0
  rcases (show ((tp k0).1 = 0) ∨ ((tp k0).1 = 5) ∨ (1 ≤ (tp k0).1 ∧ (tp k0).1 ≤ 4) by omega) with hs1 | hs1 | hs1
  · skip
    rcases xix_cases x1 (n := (tp k0).2.1) (by omega) with ⟨ec1, hc1⟩ | ⟨k1, hk1, rfl, ec1⟩
    · skip
      refine xi_aload_n dX9_put_0 rfl ?_
      refine xi_iload_n dX9_put_1 rfl ?_
      refine xi_iconst (v := 1) dX9_put_2 rfl ?_
      refine xi_iconst (v := 4) dX9_put_3 rfl ?_
      refine xi_callV [.int (nI k0), .int 1, .int 4] [] dX9_put_4 zX9_refuseBut mlX9_382 cc0 rfl rfl rfl rfl rfl (Nat.le_of_ble_eq_true rfl) (Nat.le_of_ble_eq_true rfl) ⟨by decide, by decide⟩ ?_
      refine c_butA hX hC (d := k0) (lo := 1) (hi := 4) (by omega) ⟨by omega, by omega⟩ (by omega) (fun M1 hC1 => ?_)
      show WP _ _ 7 _ [.int (-11)] _ _
      refine xi_istore (lv' := [some (.ref 0), some (.int (nI k0)), some (.int x1), some (.long x2), none, some (.int (-11)), none]) dX9_put_7 (by decide) rfl ?_
      refine xi_iload dX9_put_9 rfl ?_
      refine xi_if_ge 17 dX9_put_11 (by decide) (fun z => absurd z (by decide)) (fun _ => ?_)
      refine xi_iload dX9_put_14 rfl ?_
      refine xi_iret (v := (-11)) dX9_put_16 rfl ?_
      simp only [st_put, ec0] at h
      rw [if_pos hs1] at h
      exact h _ hC1
    refine xi_aload_n dX9_put_0 rfl ?_
    refine xi_iload_n dX9_put_1 rfl ?_
    refine xi_iconst (v := 1) dX9_put_2 rfl ?_
    refine xi_iconst (v := 4) dX9_put_3 rfl ?_
    refine xi_callV [.int (nI k0), .int 1, .int 4] [] dX9_put_4 zX9_refuseBut mlX9_382 cc0 rfl rfl rfl rfl rfl (Nat.le_of_ble_eq_true rfl) (Nat.le_of_ble_eq_true rfl) ⟨by decide, by decide⟩ ?_
    refine c_butA hX hC (d := k0) (lo := 1) (hi := 4) (by omega) ⟨by omega, by omega⟩ (by omega) (fun M1 hC1 => ?_)
    show WP _ _ 7 _ [.int (-11)] _ _
    refine xi_istore (lv' := [some (.ref 0), some (.int (nI k0)), some (.int (nI k1)), some (.long x2), none, some (.int (-11)), none]) dX9_put_7 (by decide) rfl ?_
    refine xi_iload dX9_put_9 rfl ?_
    refine xi_if_ge 17 dX9_put_11 (by decide) (fun z => absurd z (by decide)) (fun _ => ?_)
    refine xi_iload dX9_put_14 rfl ?_
    refine xi_iret (v := (-11)) dX9_put_16 rfl ?_
    simp only [st_put, ec0, ec1] at h
    rw [if_pos hs1] at h
    exact h _ hC1
  · skip
    rcases xix_cases x1 (n := (tp k0).2.1) (by omega) with ⟨ec1, hc1⟩ | ⟨k1, hk1, rfl, ec1⟩
    · skip
      refine xi_aload_n dX9_put_0 rfl ?_
      refine xi_iload_n dX9_put_1 rfl ?_
      refine xi_iconst (v := 1) dX9_put_2 rfl ?_
      refine xi_iconst (v := 4) dX9_put_3 rfl ?_
      refine xi_callV [.int (nI k0), .int 1, .int 4] [] dX9_put_4 zX9_refuseBut mlX9_382 cc0 rfl rfl rfl rfl rfl (Nat.le_of_ble_eq_true rfl) (Nat.le_of_ble_eq_true rfl) ⟨by decide, by decide⟩ ?_
      refine c_butB hX hC (d := k0) (lo := 1) (hi := 4) (by omega) ⟨by omega, by omega⟩ (by omega) (by omega) (fun M1 hC1 => ?_)
      show WP _ _ 7 _ [.int (-12)] _ _
      refine xi_istore (lv' := [some (.ref 0), some (.int (nI k0)), some (.int x1), some (.long x2), none, some (.int (-12)), none]) dX9_put_7 (by decide) rfl ?_
      refine xi_iload dX9_put_9 rfl ?_
      refine xi_if_ge 17 dX9_put_11 (by decide) (fun z => absurd z (by decide)) (fun _ => ?_)
      refine xi_iload dX9_put_14 rfl ?_
      refine xi_iret (v := (-12)) dX9_put_16 rfl ?_
      simp only [st_put, ec0] at h
      rw [if_neg (by omega), if_pos hs1] at h
      exact h _ hC1
    refine xi_aload_n dX9_put_0 rfl ?_
    refine xi_iload_n dX9_put_1 rfl ?_
    refine xi_iconst (v := 1) dX9_put_2 rfl ?_
    refine xi_iconst (v := 4) dX9_put_3 rfl ?_
    refine xi_callV [.int (nI k0), .int 1, .int 4] [] dX9_put_4 zX9_refuseBut mlX9_382 cc0 rfl rfl rfl rfl rfl (Nat.le_of_ble_eq_true rfl) (Nat.le_of_ble_eq_true rfl) ⟨by decide, by decide⟩ ?_
    refine c_butB hX hC (d := k0) (lo := 1) (hi := 4) (by omega) ⟨by omega, by omega⟩ (by omega) (by omega) (fun M1 hC1 => ?_)
    show WP _ _ 7 _ [.int (-12)] _ _
    refine xi_istore (lv' := [some (.ref 0), some (.int (nI k0)), some (.int (nI k1)), some (.long x2), none, some (.int (-12)), none]) dX9_put_7 (by decide) rfl ?_
    refine xi_iload dX9_put_9 rfl ?_
    refine xi_if_ge 17 dX9_put_11 (by decide) (fun z => absurd z (by decide)) (fun _ => ?_)
    refine xi_iload dX9_put_14 rfl ?_
    refine xi_iret (v := (-12)) dX9_put_16 rfl ?_
    simp only [st_put, ec0, ec1] at h
    rw [if_neg (by omega), if_pos hs1] at h
    exact h _ hC1
  · skip
    rcases xix_cases x1 (n := (tp k0).2.1) (by omega) with ⟨ec1, hc1⟩ | ⟨k1, hk1, rfl, ec1⟩
    · skip
      refine xi_aload_n dX9_put_0 rfl ?_
      refine xi_iload_n dX9_put_1 rfl ?_
      refine xi_iconst (v := 1) dX9_put_2 rfl ?_
      refine xi_iconst (v := 4) dX9_put_3 rfl ?_
      refine xi_callV [.int (nI k0), .int 1, .int 4] [] dX9_put_4 zX9_refuseBut mlX9_382 cc0 rfl rfl rfl rfl rfl (Nat.le_of_ble_eq_true rfl) (Nat.le_of_ble_eq_true rfl) ⟨by decide, by decide⟩ ?_
      refine c_butC hX hC (d := k0) (lo := 1) (hi := 4) (by omega) ⟨by omega, by omega⟩ (by omega) (by omega) ?_
      show WP _ _ 7 _ [.int (nI 0)] _ _
      refine xi_istore (lv' := [some (.ref 0), some (.int (nI k0)), some (.int x1), some (.long x2), none, some (.int (nI 0)), none]) dX9_put_7 (by decide) rfl ?_
      refine xi_iload dX9_put_9 rfl ?_
      refine xn_if_ge 0 17 dX9_put_11 (by decide) rfl (by omega) ?_
      refine xi_aload_n dX9_put_17 rfl ?_
      refine xi_getR dX9_put_18 fgX9_60 cc0 rfl ?_
      refine xi_iload_n dX9_put_21 rfl ?_
      refine xe_aald6 (j := (43 + 3 * k0)) k0 dX9_put_22 cc21 (by decide) rfl (by omega) (if_pos (by omega)) ?_
      refine xi_astore (lv' := [some (.ref 0), some (.int (nI k0)), some (.int x1), some (.long x2), none, some (.int (nI 0)), some (.ref (43 + 3 * k0))]) dX9_put_23 (by decide) rfl ?_
      refine xi_aload dX9_put_25 rfl ?_
      refine xi_iload_n dX9_put_27 rfl ?_
      refine xi_callV [.int x1] [] dX9_put_28 zX8_hasPlace mlX9_386 (tpo (isTp_d (d := k0) (by omega))) rfl rfl rfl rfl rfl (Nat.le_of_ble_eq_true rfl) (Nat.le_of_ble_eq_true rfl) ⟨by decide, by decide⟩ ?_
      refine t_hasF (isTp_d (d := k0) (by omega)) (hKT k0 (by omega)).2.1 hc1 (wtp k0).2.1 ?_
      show WP _ _ 31 _ [.int (xb false)] _ _
      refine xb_if_ne false 41 dX9_put_31 (by decide) rfl (fun z => absurd z (by decide)) (fun _ => ?_)
      refine xi_aload_n dX9_put_34 rfl ?_
      refine xi_bipush (v := (-13)) dX9_put_35 (by decide) ?_
      refine xi_callV [.int (-13)] [] dX9_put_37 zX9_refuse mlX9_369 cc0 rfl rfl rfl rfl rfl (Nat.le_of_ble_eq_true rfl) (Nat.le_of_ble_eq_true rfl) ⟨by decide, by decide⟩ ?_
      refine c_refuse (x := (-13)) hhr ?_
      show WP _ _ 40 _ [.int (-13)] _ _
      refine xi_iret (v := (-13)) dX9_put_40 rfl ?_
      simp only [st_put, ec0] at h
      rw [if_neg (by omega), if_neg (by omega), ec1] at h
      exact h _ (RepC_ref hC)
    refine xi_aload_n dX9_put_0 rfl ?_
    refine xi_iload_n dX9_put_1 rfl ?_
    refine xi_iconst (v := 1) dX9_put_2 rfl ?_
    refine xi_iconst (v := 4) dX9_put_3 rfl ?_
    refine xi_callV [.int (nI k0), .int 1, .int 4] [] dX9_put_4 zX9_refuseBut mlX9_382 cc0 rfl rfl rfl rfl rfl (Nat.le_of_ble_eq_true rfl) (Nat.le_of_ble_eq_true rfl) ⟨by decide, by decide⟩ ?_
    refine c_butC hX hC (d := k0) (lo := 1) (hi := 4) (by omega) ⟨by omega, by omega⟩ (by omega) (by omega) ?_
    show WP _ _ 7 _ [.int (nI 0)] _ _
    refine xi_istore (lv' := [some (.ref 0), some (.int (nI k0)), some (.int (nI k1)), some (.long x2), none, some (.int (nI 0)), none]) dX9_put_7 (by decide) rfl ?_
    refine xi_iload dX9_put_9 rfl ?_
    refine xn_if_ge 0 17 dX9_put_11 (by decide) rfl (by omega) ?_
    refine xi_aload_n dX9_put_17 rfl ?_
    refine xi_getR dX9_put_18 fgX9_60 cc0 rfl ?_
    refine xi_iload_n dX9_put_21 rfl ?_
    refine xe_aald6 (j := (43 + 3 * k0)) k0 dX9_put_22 cc21 (by decide) rfl (by omega) (if_pos (by omega)) ?_
    refine xi_astore (lv' := [some (.ref 0), some (.int (nI k0)), some (.int (nI k1)), some (.long x2), none, some (.int (nI 0)), some (.ref (43 + 3 * k0))]) dX9_put_23 (by decide) rfl ?_
    refine xi_aload dX9_put_25 rfl ?_
    refine xi_iload_n dX9_put_27 rfl ?_
    refine xi_callV [.int (nI k1)] [] dX9_put_28 zX8_hasPlace mlX9_386 (tpo (isTp_d (d := k0) (by omega))) rfl rfl rfl rfl rfl (Nat.le_of_ble_eq_true rfl) (Nat.le_of_ble_eq_true rfl) ⟨by decide, by decide⟩ ?_
    refine t_hasT (isTp_d (d := k0) (by omega)) (hKT k0 (by omega)).2.1 (k := k1) (by omega) (wtp k0).2.1 ?_
    show WP _ _ 31 _ [.int (xb true)] _ _
    refine xb_if_ne true 41 dX9_put_31 (by decide) rfl (fun _ => ?_) (fun z => absurd z (by decide))
    refine xi_aload dX9_put_41 rfl ?_
    refine xi_getR dX9_put_43 fgX9_389 (tpo (isTp_d (d := k0) (by omega))) rfl ?_
    refine xi_iload_n dX9_put_46 rfl ?_
    refine xi_aload dX9_put_47 rfl ?_
    refine xi_lload_n dX9_put_49 rfl ?_
    refine xi_callV [.long x2] [.int (nI k1), .ref ((43 + 3 * k0) + 1)] dX9_put_50 zX8_narrowed mlX9_393 (tpo (isTp_d (d := k0) (by omega))) rfl rfl rfl rfl rfl (Nat.le_of_ble_eq_true rfl) (Nat.le_of_ble_eq_true rfl) ⟨by decide, by decide⟩ ?_
    refine t_nar (isTp_d hk0) (hKT k0 hk0).1 (by omega) ?_
    show WP _ _ 53 _ [.long (mnar (tp k0).1 x2), .int (nI k1), .ref ((43 + 3 * k0) + 1)] _ _
    refine xe_last k1 dX9_put_53 (tpa (isTp_d (d := k0) (by omega))) (by decide) rfl (by omega) ?_
    refine xi_iconst (v := 1) dX9_put_54 rfl ?_
    refine xi_iret (v := 1) dX9_put_55 rfl ?_
    simp only [st_put, ec0, ec1] at h
    rw [if_neg (by omega), if_neg (by omega)] at h
    have q0 := hKT k0 hk0
    refine h _ (RepC_tp hC hk0 (sC2.xj (by omega)) (sC2.xj (by omega)) ⟨q0.1, q0.2.1, q0.2.2.1, fun n hn => ?_, q0.2.2.2.2⟩)
    rw [xj_s]
    show _ = va_up (tp k0).2.2.2.1 k1 _ n
    by_cases e : n = k1
    · rw [e, updL_s, up_s]
    · rw [updL_n e, up_n e]; exact q0.2.2.2.1 n hn

set_option maxHeartbeats 4000000 in
set_option maxRecDepth 100000 in
theorem cl_kept {X : xX} {M : xM} {Q : Option Value → xM → Prop} (hX : wX X) (hC : RepC X M) (x0 : Int32) (x1 : Int32) (h : ∀ M2, RepC (st_kept X x0 x1).2 M2 → Q (some (.int (st_kept X x0 x1).1)) M2) : WP shC mX9_kept 0 [some (.ref 0), some (.int x0), some (.int x1), none, none] [] M Q := by
  obtain ⟨G, S0, now, late, risk, A, L, sq, nl, rf, hr, lg, w, tp⟩ := X
  obtain ⟨hW, hw0, wn, wl, wr, wA_, wsq, wnl, wmo, wtk, wwt, wtp, wO0, wB0⟩ := id hX
  obtain ⟨b1, b2, b3, b4, b5, b6, b7, b8, b9, wmap, wlink, wk0, wk1, b10, b11, wword⟩ := id hW
  have nb : nl ≤ 2000 := by rw [wnl]; exact mcnt_le 2000
  obtain ⟨hG, hKF, hKR, hL, hKE, hKS, hKW, hKT, hKM⟩ := id hC
  obtain ⟨hno, hla, hri, hnl, hrf, hhr⟩ := id hKM
  have hSn : CS G (Zf G A S0 now) M (61 + 10 * (now % 16)) := hKR.1 now (by omega) (by omega)
  have hwn : wS G (Zf G A S0 now) := wS_Zf hW hw0 now
  have wtq : ∀ d, (tp d).1 ≤ 5 ∧ (tp d).2.1 ≤ 100 ∧ (1 ≤ (tp d).1 ∧ (tp d).1 ≤ 4 → (tp d).2.1 ≤ 80) := fun d => ⟨(wtp d).1, (wtp d).2.1, (wtp d).2.2.2⟩
  rcases xix_cases x0 (n := 6) (by omega) with ⟨ec0, hc0⟩ | ⟨k0, hk0, rfl, ec0⟩
  · skip
    refine xi_aload_n dX9_kept_0 rfl ?_
    refine xi_iload_n dX9_kept_1 rfl ?_
    refine xi_iconst (v := 5) dX9_kept_2 rfl ?_
    refine xi_iconst (v := 5) dX9_kept_3 rfl ?_
    refine xi_callV [.int x0, .int 5, .int 5] [] dX9_kept_4 zX9_refuseBut mlX9_382 cc0 rfl rfl rfl rfl rfl (Nat.le_of_ble_eq_true rfl) (Nat.le_of_ble_eq_true rfl) ⟨by decide, by decide⟩ ?_
    refine c_but0 (lo := 5) (hi := 5) hc0 ?_
    show WP _ _ 7 _ [.int (-1)] _ _
    refine xi_istore_n (lv' := [some (.ref 0), some (.int x0), some (.int x1), some (.int (-1)), none]) dX9_kept_7 (by decide) rfl ?_
    refine xi_iload_n dX9_kept_8 rfl ?_
    refine xi_if_ge 14 dX9_kept_9 (by decide) (fun z => absurd z (by decide)) (fun _ => ?_)
    refine xi_iload_n dX9_kept_12 rfl ?_
    refine xi_iret (v := (-1)) dX9_kept_13 rfl ?_
    have e : st_kept (G, S0, now, late, risk, A, L, sq, nl, rf, hr, lg, w, tp) x0 x1 = (-1, (G, S0, now, late, risk, A, L, sq, nl, rf, hr, lg, w, tp)) := by simp only [st_kept, ec0]
    rw [e] at h
    exact h M hC
  have z0 := wtq k0
  rcases (show ((tp k0).1 = 0) ∨ (¬ (tp k0).1 = 0 ∧ ¬ (tp k0).1 = 5) ∨ ((tp k0).1 = 5) by omega) with hs1 | hs1 | hs1
  · skip
    rcases xix_cases x1 (n := (tp k0).2.1) (by omega) with ⟨ec1, hc1⟩ | ⟨k1, hk1, rfl, ec1⟩
    · skip
      refine xi_aload_n dX9_kept_0 rfl ?_
      refine xi_iload_n dX9_kept_1 rfl ?_
      refine xi_iconst (v := 5) dX9_kept_2 rfl ?_
      refine xi_iconst (v := 5) dX9_kept_3 rfl ?_
      refine xi_callV [.int (nI k0), .int 5, .int 5] [] dX9_kept_4 zX9_refuseBut mlX9_382 cc0 rfl rfl rfl rfl rfl (Nat.le_of_ble_eq_true rfl) (Nat.le_of_ble_eq_true rfl) ⟨by decide, by decide⟩ ?_
      refine c_butA hX hC (d := k0) (lo := 5) (hi := 5) (by omega) ⟨by omega, by omega⟩ (by omega) (fun M1 hC1 => ?_)
      show WP _ _ 7 _ [.int (-11)] _ _
      refine xi_istore_n (lv' := [some (.ref 0), some (.int (nI k0)), some (.int x1), some (.int (-11)), none]) dX9_kept_7 (by decide) rfl ?_
      refine xi_iload_n dX9_kept_8 rfl ?_
      refine xi_if_ge 14 dX9_kept_9 (by decide) (fun z => absurd z (by decide)) (fun _ => ?_)
      refine xi_iload_n dX9_kept_12 rfl ?_
      refine xi_iret (v := (-11)) dX9_kept_13 rfl ?_
      simp only [st_kept, ec0] at h
      rw [if_pos hs1] at h
      exact h _ hC1
    refine xi_aload_n dX9_kept_0 rfl ?_
    refine xi_iload_n dX9_kept_1 rfl ?_
    refine xi_iconst (v := 5) dX9_kept_2 rfl ?_
    refine xi_iconst (v := 5) dX9_kept_3 rfl ?_
    refine xi_callV [.int (nI k0), .int 5, .int 5] [] dX9_kept_4 zX9_refuseBut mlX9_382 cc0 rfl rfl rfl rfl rfl (Nat.le_of_ble_eq_true rfl) (Nat.le_of_ble_eq_true rfl) ⟨by decide, by decide⟩ ?_
    refine c_butA hX hC (d := k0) (lo := 5) (hi := 5) (by omega) ⟨by omega, by omega⟩ (by omega) (fun M1 hC1 => ?_)
    show WP _ _ 7 _ [.int (-11)] _ _
    refine xi_istore_n (lv' := [some (.ref 0), some (.int (nI k0)), some (.int (nI k1)), some (.int (-11)), none]) dX9_kept_7 (by decide) rfl ?_
    refine xi_iload_n dX9_kept_8 rfl ?_
    refine xi_if_ge 14 dX9_kept_9 (by decide) (fun z => absurd z (by decide)) (fun _ => ?_)
    refine xi_iload_n dX9_kept_12 rfl ?_
    refine xi_iret (v := (-11)) dX9_kept_13 rfl ?_
    simp only [st_kept, ec0] at h
    rw [if_pos hs1] at h
    exact h _ hC1
  · skip
    rcases xix_cases x1 (n := (tp k0).2.1) (by omega) with ⟨ec1, hc1⟩ | ⟨k1, hk1, rfl, ec1⟩
    · skip
      refine xi_aload_n dX9_kept_0 rfl ?_
      refine xi_iload_n dX9_kept_1 rfl ?_
      refine xi_iconst (v := 5) dX9_kept_2 rfl ?_
      refine xi_iconst (v := 5) dX9_kept_3 rfl ?_
      refine xi_callV [.int (nI k0), .int 5, .int 5] [] dX9_kept_4 zX9_refuseBut mlX9_382 cc0 rfl rfl rfl rfl rfl (Nat.le_of_ble_eq_true rfl) (Nat.le_of_ble_eq_true rfl) ⟨by decide, by decide⟩ ?_
      refine c_butB hX hC (d := k0) (lo := 5) (hi := 5) (by omega) ⟨by omega, by omega⟩ (by omega) (by omega) (fun M1 hC1 => ?_)
      show WP _ _ 7 _ [.int (-12)] _ _
      refine xi_istore_n (lv' := [some (.ref 0), some (.int (nI k0)), some (.int x1), some (.int (-12)), none]) dX9_kept_7 (by decide) rfl ?_
      refine xi_iload_n dX9_kept_8 rfl ?_
      refine xi_if_ge 14 dX9_kept_9 (by decide) (fun z => absurd z (by decide)) (fun _ => ?_)
      refine xi_iload_n dX9_kept_12 rfl ?_
      refine xi_iret (v := (-12)) dX9_kept_13 rfl ?_
      simp only [st_kept, ec0] at h
      rw [if_neg hs1.1, if_pos hs1.2] at h
      exact h _ hC1
    refine xi_aload_n dX9_kept_0 rfl ?_
    refine xi_iload_n dX9_kept_1 rfl ?_
    refine xi_iconst (v := 5) dX9_kept_2 rfl ?_
    refine xi_iconst (v := 5) dX9_kept_3 rfl ?_
    refine xi_callV [.int (nI k0), .int 5, .int 5] [] dX9_kept_4 zX9_refuseBut mlX9_382 cc0 rfl rfl rfl rfl rfl (Nat.le_of_ble_eq_true rfl) (Nat.le_of_ble_eq_true rfl) ⟨by decide, by decide⟩ ?_
    refine c_butB hX hC (d := k0) (lo := 5) (hi := 5) (by omega) ⟨by omega, by omega⟩ (by omega) (by omega) (fun M1 hC1 => ?_)
    show WP _ _ 7 _ [.int (-12)] _ _
    refine xi_istore_n (lv' := [some (.ref 0), some (.int (nI k0)), some (.int (nI k1)), some (.int (-12)), none]) dX9_kept_7 (by decide) rfl ?_
    refine xi_iload_n dX9_kept_8 rfl ?_
    refine xi_if_ge 14 dX9_kept_9 (by decide) (fun z => absurd z (by decide)) (fun _ => ?_)
    refine xi_iload_n dX9_kept_12 rfl ?_
    refine xi_iret (v := (-12)) dX9_kept_13 rfl ?_
    simp only [st_kept, ec0] at h
    rw [if_neg hs1.1, if_pos hs1.2] at h
    exact h _ hC1
  · skip
    rcases xix_cases x1 (n := (tp k0).2.1) (by omega) with ⟨ec1, hc1⟩ | ⟨k1, hk1, rfl, ec1⟩
    · skip
      refine xi_aload_n dX9_kept_0 rfl ?_
      refine xi_iload_n dX9_kept_1 rfl ?_
      refine xi_iconst (v := 5) dX9_kept_2 rfl ?_
      refine xi_iconst (v := 5) dX9_kept_3 rfl ?_
      refine xi_callV [.int (nI k0), .int 5, .int 5] [] dX9_kept_4 zX9_refuseBut mlX9_382 cc0 rfl rfl rfl rfl rfl (Nat.le_of_ble_eq_true rfl) (Nat.le_of_ble_eq_true rfl) ⟨by decide, by decide⟩ ?_
      refine c_butC hX hC (d := k0) (lo := 5) (hi := 5) (by omega) ⟨by omega, by omega⟩ (by omega) (by omega) ?_
      show WP _ _ 7 _ [.int (nI 0)] _ _
      refine xi_istore_n (lv' := [some (.ref 0), some (.int (nI k0)), some (.int x1), some (.int (nI 0)), none]) dX9_kept_7 (by decide) rfl ?_
      refine xi_iload_n dX9_kept_8 rfl ?_
      refine xn_if_ge 0 14 dX9_kept_9 (by decide) rfl (by omega) ?_
      refine xi_aload_n dX9_kept_14 rfl ?_
      refine xi_getR dX9_kept_15 fgX9_60 cc0 rfl ?_
      refine xi_iload_n dX9_kept_18 rfl ?_
      refine xe_aald6 (j := (43 + 3 * k0)) k0 dX9_kept_19 cc21 (by decide) rfl (by omega) (if_pos (by omega)) ?_
      refine xi_astore (lv' := [some (.ref 0), some (.int (nI k0)), some (.int x1), some (.int (nI 0)), some (.ref (43 + 3 * k0))]) dX9_kept_20 (by decide) rfl ?_
      refine xi_aload dX9_kept_22 rfl ?_
      refine xi_iload_n dX9_kept_24 rfl ?_
      refine xi_callV [.int x1] [] dX9_kept_25 zX8_hasPlace mlX9_386 (tpo (isTp_d (d := k0) (by omega))) rfl rfl rfl rfl rfl (Nat.le_of_ble_eq_true rfl) (Nat.le_of_ble_eq_true rfl) ⟨by decide, by decide⟩ ?_
      refine t_hasF (isTp_d (d := k0) (by omega)) (hKT k0 (by omega)).2.1 hc1 (wtp k0).2.1 ?_
      show WP _ _ 28 _ [.int (xb false)] _ _
      refine xb_if_ne false 38 dX9_kept_28 (by decide) rfl (fun z => absurd z (by decide)) (fun _ => ?_)
      refine xi_aload_n dX9_kept_31 rfl ?_
      refine xi_bipush (v := (-13)) dX9_kept_32 (by decide) ?_
      refine xi_callV [.int (-13)] [] dX9_kept_34 zX9_refuse mlX9_369 cc0 rfl rfl rfl rfl rfl (Nat.le_of_ble_eq_true rfl) (Nat.le_of_ble_eq_true rfl) ⟨by decide, by decide⟩ ?_
      refine c_refuse (x := (-13)) hhr ?_
      show WP _ _ 37 _ [.int (-13)] _ _
      refine xi_iret (v := (-13)) dX9_kept_37 rfl ?_
      simp only [st_kept, ec0] at h
      rw [if_neg (by omega), if_neg (by omega), ec1] at h
      exact h _ (RepC_ref hC)
    refine xi_aload_n dX9_kept_0 rfl ?_
    refine xi_iload_n dX9_kept_1 rfl ?_
    refine xi_iconst (v := 5) dX9_kept_2 rfl ?_
    refine xi_iconst (v := 5) dX9_kept_3 rfl ?_
    refine xi_callV [.int (nI k0), .int 5, .int 5] [] dX9_kept_4 zX9_refuseBut mlX9_382 cc0 rfl rfl rfl rfl rfl (Nat.le_of_ble_eq_true rfl) (Nat.le_of_ble_eq_true rfl) ⟨by decide, by decide⟩ ?_
    refine c_butC hX hC (d := k0) (lo := 5) (hi := 5) (by omega) ⟨by omega, by omega⟩ (by omega) (by omega) ?_
    show WP _ _ 7 _ [.int (nI 0)] _ _
    refine xi_istore_n (lv' := [some (.ref 0), some (.int (nI k0)), some (.int (nI k1)), some (.int (nI 0)), none]) dX9_kept_7 (by decide) rfl ?_
    refine xi_iload_n dX9_kept_8 rfl ?_
    refine xn_if_ge 0 14 dX9_kept_9 (by decide) rfl (by omega) ?_
    refine xi_aload_n dX9_kept_14 rfl ?_
    refine xi_getR dX9_kept_15 fgX9_60 cc0 rfl ?_
    refine xi_iload_n dX9_kept_18 rfl ?_
    refine xe_aald6 (j := (43 + 3 * k0)) k0 dX9_kept_19 cc21 (by decide) rfl (by omega) (if_pos (by omega)) ?_
    refine xi_astore (lv' := [some (.ref 0), some (.int (nI k0)), some (.int (nI k1)), some (.int (nI 0)), some (.ref (43 + 3 * k0))]) dX9_kept_20 (by decide) rfl ?_
    refine xi_aload dX9_kept_22 rfl ?_
    refine xi_iload_n dX9_kept_24 rfl ?_
    refine xi_callV [.int (nI k1)] [] dX9_kept_25 zX8_hasPlace mlX9_386 (tpo (isTp_d (d := k0) (by omega))) rfl rfl rfl rfl rfl (Nat.le_of_ble_eq_true rfl) (Nat.le_of_ble_eq_true rfl) ⟨by decide, by decide⟩ ?_
    refine t_hasT (isTp_d (d := k0) (by omega)) (hKT k0 (by omega)).2.1 (k := k1) (by omega) (wtp k0).2.1 ?_
    show WP _ _ 28 _ [.int (xb true)] _ _
    refine xb_if_ne true 38 dX9_kept_28 (by decide) rfl (fun _ => ?_) (fun z => absurd z (by decide))
    refine xi_aload dX9_kept_38 rfl ?_
    refine xi_getR dX9_kept_40 fgX9_421 (tpo (isTp_d (d := k0) (by omega))) rfl ?_
    refine xi_iload_n dX9_kept_43 rfl ?_
    refine xe_iald (v := ((tp k0).2.2.2.2 k1)) k1 dX9_kept_44 (tpb (isTp_d (d := k0) (by omega))) (by decide) rfl (by omega) ((hKT k0 hk0).2.2.2.2 k1 (by omega)) ?_
    refine xi_iret (v := ((tp k0).2.2.2.2 k1)) dX9_kept_45 rfl ?_
    simp only [st_kept, ec0] at h
    rw [if_neg (by omega), if_neg (by omega), ec1] at h
    exact h M hC

set_option maxHeartbeats 4000000 in
set_option maxRecDepth 100000 in
theorem t_plT {M : xM} {Q : Option Value → xM → Prop} {r m : Nat} (hr : isTp r) (hz : M.1 r 1 = nI m) (hm : m ≤ 80) {i n : Nat} (hi : i ≤ 80) (hn : n ≤ 80) (h : Q (some (.int (xb (decide (i + n ≤ m))))) M) : WP shC mX8_hasPlaces 0 [some (.ref r), some (.int (nI i)), some (.int (nI n))] [] M Q := by
  refine xi_iload_n dX8_hasPlaces_0 rfl ?_
  refine xn_if_lt i 30 dX8_hasPlaces_1 (by decide) rfl (by omega) ?_
  refine xi_iload_n dX8_hasPlaces_4 rfl ?_
  refine xn_if_lt n 30 dX8_hasPlaces_5 (by decide) rfl (by omega) ?_
  refine xi_iload_n dX8_hasPlaces_8 rfl ?_
  refine xi_aload_n dX8_hasPlaces_9 rfl ?_
  refine xe_getI (v := nI m) dX8_hasPlaces_10 fgX8_23 (tpo hr) rfl hz ?_
  refine xn_icmp_gt i m 30 dX8_hasPlaces_13 (by decide) rfl rfl (by omega) (by omega) (fun h13 => ?_) (fun h13 => ?_)
  · skip
    refine xi_iconst (v := 0) dX8_hasPlaces_30 rfl ?_
    refine xi_zret (v := 0) dX8_hasPlaces_31 rfl (by decide) ?_
    rw [show decide (i + n ≤ m) = false by simp; omega] at h
    exact h
  · skip
    refine xi_iload_n dX8_hasPlaces_16 rfl ?_
    refine xi_aload_n dX8_hasPlaces_17 rfl ?_
    refine xe_getI (v := nI m) dX8_hasPlaces_18 fgX8_23 (tpo hr) rfl hz ?_
    refine xi_iload_n dX8_hasPlaces_21 rfl ?_
    refine xe_isub dX8_hasPlaces_22 (v := nI (m - i)) (pk_sub (a := m) (b := i) (by omega)) ?_
    refine xn_icmp_gt n (m - i) 30 dX8_hasPlaces_23 (by decide) rfl rfl (by omega) (by omega) (fun h23 => ?_) (fun h23 => ?_)
    · skip
      refine xi_iconst (v := 0) dX8_hasPlaces_30 rfl ?_
      refine xi_zret (v := 0) dX8_hasPlaces_31 rfl (by decide) ?_
      rw [show decide (i + n ≤ m) = false by simp; omega] at h
      exact h
    · skip
      refine xi_iconst (v := 1) dX8_hasPlaces_26 rfl ?_
      refine xi_goto 31 dX8_hasPlaces_27 (by decide) ?_
      refine xi_zret (v := 1) dX8_hasPlaces_31 rfl (by decide) ?_
      rw [show decide (i + n ≤ m) = true by simp; omega] at h
      exact h

set_option maxHeartbeats 4000000 in
set_option maxRecDepth 100000 in
theorem t_plF {M : xM} {Q : Option Value → xM → Prop} {r m : Nat} (hr : isTp r) (hz : M.1 r 1 = nI m) (hm : m ≤ 80) {x y : Int32} (hc : x < nI 0 ∨ nI 80 < x) (h : Q (some (.int (xb false))) M) : WP shC mX8_hasPlaces 0 [some (.ref r), some (.int x), some (.int y)] [] M Q := by
  refine xi_iload_n dX8_hasPlaces_0 rfl ?_
  refine xi_if_lt 30 dX8_hasPlaces_1 (by decide) (fun h1 => ?_) (fun h1 => ?_)
  · skip
    refine xi_iconst (v := 0) dX8_hasPlaces_30 rfl ?_
    refine xi_zret (v := 0) dX8_hasPlaces_31 rfl (by decide) ?_
    exact h
  · skip
    refine xi_iload_n dX8_hasPlaces_4 rfl ?_
    refine xi_if_lt 30 dX8_hasPlaces_5 (by decide) (fun h5 => ?_) (fun h5 => ?_)
    · skip
      refine xi_iconst (v := 0) dX8_hasPlaces_30 rfl ?_
      refine xi_zret (v := 0) dX8_hasPlaces_31 rfl (by decide) ?_
      exact h
    · skip
      refine xi_iload_n dX8_hasPlaces_8 rfl ?_
      refine xi_aload_n dX8_hasPlaces_9 rfl ?_
      refine xe_getI (v := nI m) dX8_hasPlaces_10 fgX8_23 (tpo hr) rfl hz ?_
      refine xi_icmp_gt 30 dX8_hasPlaces_13 (by decide) (fun h13 => ?_) (fun h13 => ?_)
      · skip
        refine xi_iconst (v := 0) dX8_hasPlaces_30 rfl ?_
        refine xi_zret (v := 0) dX8_hasPlaces_31 rfl (by decide) ?_
        exact h
      · exact hc.elim (fun q => absurd q h1) (fun q => absurd (Int32.lt_of_lt_of_le q (Int32.not_lt.mp h13)) (nI_nlt hm (by omega)))

set_option maxHeartbeats 4000000 in
set_option maxRecDepth 100000 in
theorem t_plN {M : xM} {Q : Option Value → xM → Prop} {r m : Nat} (hr : isTp r) (hz : M.1 r 1 = nI m) (hm : m ≤ 80) {i : Nat} {y : Int32} (hi : i ≤ 80) (hc : y < nI 0 ∨ nI 80 < y) (h : Q (some (.int (xb false))) M) : WP shC mX8_hasPlaces 0 [some (.ref r), some (.int (nI i)), some (.int y)] [] M Q := by
  refine xi_iload_n dX8_hasPlaces_0 rfl ?_
  refine xn_if_lt i 30 dX8_hasPlaces_1 (by decide) rfl (by omega) ?_
  refine xi_iload_n dX8_hasPlaces_4 rfl ?_
  refine xi_if_lt 30 dX8_hasPlaces_5 (by decide) (fun h5 => ?_) (fun h5 => ?_)
  · skip
    refine xi_iconst (v := 0) dX8_hasPlaces_30 rfl ?_
    refine xi_zret (v := 0) dX8_hasPlaces_31 rfl (by decide) ?_
    exact h
  · skip
    refine xi_iload_n dX8_hasPlaces_8 rfl ?_
    refine xi_aload_n dX8_hasPlaces_9 rfl ?_
    refine xe_getI (v := nI m) dX8_hasPlaces_10 fgX8_23 (tpo hr) rfl hz ?_
    refine xn_icmp_gt i m 30 dX8_hasPlaces_13 (by decide) rfl rfl (by omega) (by omega) (fun h13 => ?_) (fun h13 => ?_)
    · skip
      refine xi_iconst (v := 0) dX8_hasPlaces_30 rfl ?_
      refine xi_zret (v := 0) dX8_hasPlaces_31 rfl (by decide) ?_
      exact h
    · skip
      refine xi_iload_n dX8_hasPlaces_16 rfl ?_
      refine xi_aload_n dX8_hasPlaces_17 rfl ?_
      refine xe_getI (v := nI m) dX8_hasPlaces_18 fgX8_23 (tpo hr) rfl hz ?_
      refine xi_iload_n dX8_hasPlaces_21 rfl ?_
      refine xe_isub dX8_hasPlaces_22 (v := nI (m - i)) (pk_sub (a := m) (b := i) (by omega)) ?_
      refine xi_icmp_gt 30 dX8_hasPlaces_23 (by decide) (fun h23 => ?_) (fun h23 => ?_)
      · skip
        refine xi_iconst (v := 0) dX8_hasPlaces_30 rfl ?_
        refine xi_zret (v := 0) dX8_hasPlaces_31 rfl (by decide) ?_
        exact h
      · exact hc.elim (fun q => absurd q h5) (fun q => absurd (Int32.lt_of_lt_of_le q (Int32.not_lt.mp h23)) (nI_nlt (by omega) (by omega)))

set_option maxHeartbeats 4000000 in
set_option maxRecDepth 100000 in
theorem t_plR {M : xM} {Q : Option Value → xM → Prop} {r m : Nat} (hr : isTp r) (hz : M.1 r 1 = nI m) (hm : m ≤ 80) {x y : Int32} (hc : y < nI 0 ∨ nI 80 < y) (h : Q (some (.int (xb false))) M) : WP shC mX8_hasPlaces 0 [some (.ref r), some (.int x), some (.int y)] [] M Q := by
  refine xi_iload_n dX8_hasPlaces_0 rfl ?_
  refine xi_if_lt 30 dX8_hasPlaces_1 (by decide) (fun h1 => ?_) (fun h1 => ?_)
  · skip
    refine xi_iconst (v := 0) dX8_hasPlaces_30 rfl ?_
    refine xi_zret (v := 0) dX8_hasPlaces_31 rfl (by decide) ?_
    exact h
  · skip
    refine xi_iload_n dX8_hasPlaces_4 rfl ?_
    refine xi_if_lt 30 dX8_hasPlaces_5 (by decide) (fun h5 => ?_) (fun h5 => ?_)
    · skip
      refine xi_iconst (v := 0) dX8_hasPlaces_30 rfl ?_
      refine xi_zret (v := 0) dX8_hasPlaces_31 rfl (by decide) ?_
      exact h
    · skip
      refine xi_iload_n dX8_hasPlaces_8 rfl ?_
      refine xi_aload_n dX8_hasPlaces_9 rfl ?_
      refine xe_getI (v := nI m) dX8_hasPlaces_10 fgX8_23 (tpo hr) rfl hz ?_
      refine xi_icmp_gt 30 dX8_hasPlaces_13 (by decide) (fun h13 => ?_) (fun h13 => ?_)
      · skip
        refine xi_iconst (v := 0) dX8_hasPlaces_30 rfl ?_
        refine xi_zret (v := 0) dX8_hasPlaces_31 rfl (by decide) ?_
        exact h
      · obtain ⟨j, hj, rfl⟩ := nI_of h1
        refine xi_iload_n dX8_hasPlaces_16 rfl ?_
        refine xi_aload_n dX8_hasPlaces_17 rfl ?_
        refine xe_getI (v := nI m) dX8_hasPlaces_18 fgX8_23 (tpo hr) rfl hz ?_
        refine xi_iload_n dX8_hasPlaces_21 rfl ?_
        refine xi_isub dX8_hasPlaces_22 ?_
        refine xi_icmp_gt 30 dX8_hasPlaces_23 (by decide) (fun h23 => ?_) (fun h23 => ?_)
        · skip
          refine xi_iconst (v := 0) dX8_hasPlaces_30 rfl ?_
          refine xi_zret (v := 0) dX8_hasPlaces_31 rfl (by decide) ?_
          exact h
        · exact hc.elim (fun q => absurd q h5) (fun q => absurd (Int32.lt_of_lt_of_le q (Int32.not_lt.mp h23)) (by
        have h13' := Int32.not_lt.mp h13
        rw [nI_leI hj (by omega)] at h13'
        rw [show nI m - nI j = nI (m - j) from pk_sub (by omega)]
        exact nI_nlt (by omega) (by omega)))

set_option maxHeartbeats 4000000 in
set_option maxRecDepth 100000 in
theorem cl_copy {X : xX} {M : xM} {Q : Option Value → xM → Prop} (hX : wX X) (hC : RepC X M) (x0 : Int32) (x1 : Int32) (x2 : Int32) (x3 : Int32) (x4 : Int32) (h : ∀ M2, RepC (st_copy X x0 x1 x2 x3 x4).2 M2 → Q (some (.int (st_copy X x0 x1 x2 x3 x4).1)) M2) : WP shC mX9_copy 0 [some (.ref 0), some (.int x0), some (.int x1), some (.int x2), some (.int x3), some (.int x4), none, none] [] M Q := by
  obtain ⟨G, S0, now, late, risk, A, L, sq, nl, rf, hr, lg, w, tp⟩ := X
  obtain ⟨hW, hw0, wn, wl, wr, wA_, wsq, wnl, wmo, wtk, wwt, wtp, wO0, wB0⟩ := id hX
  obtain ⟨b1, b2, b3, b4, b5, b6, b7, b8, b9, wmap, wlink, wk0, wk1, b10, b11, wword⟩ := id hW
  have nb : nl ≤ 2000 := by rw [wnl]; exact mcnt_le 2000
  obtain ⟨hG, hKF, hKR, hL, hKE, hKS, hKW, hKT, hKM⟩ := id hC
  obtain ⟨hno, hla, hri, hnl, hrf, hhr⟩ := id hKM
  have hSn : CS G (Zf G A S0 now) M (61 + 10 * (now % 16)) := hKR.1 now (by omega) (by omega)
  have hwn : wS G (Zf G A S0 now) := wS_Zf hW hw0 now
  have wtq : ∀ d, (tp d).1 ≤ 5 ∧ (tp d).2.1 ≤ 100 ∧ (1 ≤ (tp d).1 ∧ (tp d).1 ≤ 4 → (tp d).2.1 ≤ 80) := fun d => ⟨(wtp d).1, (wtp d).2.1, (wtp d).2.2.2⟩
  rcases xix_cases x0 (n := 6) (by omega) with ⟨ec0, hc0⟩ | ⟨k0, hk0, rfl, ec0⟩
  · skip
    refine xi_iload_n dX9_copy_0 rfl ?_
    refine xi_callS [.int x0] [] dX9_copy_1 zX9_isTape mlX9_363 rfl rfl rfl (Nat.le_of_ble_eq_true rfl) (Nat.le_of_ble_eq_true rfl) ⟨by decide, by decide⟩ ?_
    refine g_isTpF hc0 ?_
    show WP _ _ 4 _ [.int (xb false)] _ _
    refine xb_if_eq false 14 dX9_copy_4 (by decide) rfl (fun _ => ?_) (fun z => absurd z (by decide))
    refine xi_iconst (v := (-1)) dX9_copy_14 rfl ?_
    refine xi_iret (v := (-1)) dX9_copy_15 rfl ?_
    have e : st_copy (G, S0, now, late, risk, A, L, sq, nl, rf, hr, lg, w, tp) x0 x1 x2 x3 x4 = (-1, (G, S0, now, late, risk, A, L, sq, nl, rf, hr, lg, w, tp)) := by simp only [st_copy, ec0]
    rw [e] at h
    exact h M hC
  rcases xix_cases x2 (n := 6) (by omega) with ⟨ec2, hc2⟩ | ⟨k2, hk2, rfl, ec2⟩
  · skip
    refine xi_iload_n dX9_copy_0 rfl ?_
    refine xi_callS [.int (nI k0)] [] dX9_copy_1 zX9_isTape mlX9_363 rfl rfl rfl (Nat.le_of_ble_eq_true rfl) (Nat.le_of_ble_eq_true rfl) ⟨by decide, by decide⟩ ?_
    refine g_isTpT (k := k0) (by omega) ?_
    show WP _ _ 4 _ [.int (xb true)] _ _
    refine xb_if_eq true 14 dX9_copy_4 (by decide) rfl (fun z => absurd z (by decide)) (fun _ => ?_)
    refine xi_iload_n dX9_copy_7 rfl ?_
    refine xi_callS [.int x2] [] dX9_copy_8 zX9_isTape mlX9_363 rfl rfl rfl (Nat.le_of_ble_eq_true rfl) (Nat.le_of_ble_eq_true rfl) ⟨by decide, by decide⟩ ?_
    refine g_isTpF hc2 ?_
    show WP _ _ 11 _ [.int (xb false)] _ _
    refine xb_if_ne false 16 dX9_copy_11 (by decide) rfl (fun z => absurd z (by decide)) (fun _ => ?_)
    refine xi_iconst (v := (-1)) dX9_copy_14 rfl ?_
    refine xi_iret (v := (-1)) dX9_copy_15 rfl ?_
    have e : st_copy (G, S0, now, late, risk, A, L, sq, nl, rf, hr, lg, w, tp) (nI k0) x1 x2 x3 x4 = (-1, (G, S0, now, late, risk, A, L, sq, nl, rf, hr, lg, w, tp)) := by simp only [st_copy, ec0, ec2]
    rw [e] at h
    exact h M hC
  have z0 := wtq k0
  have z2 := wtq k2
  rcases (show ((tp k0).1 = 0 ∨ (tp k2).1 = 0) ∨ ((¬ (tp k0).1 = 0 ∧ ¬ (tp k2).1 = 0) ∧ ((tp k0).1 = 5 ∨ ¬ (tp k0).1 = (tp k2).1)) ∨ (1 ≤ (tp k0).1 ∧ (tp k0).1 ≤ 4 ∧ (tp k0).1 = (tp k2).1) by omega) with hs2 | hs2 | hs2
  · skip
    rcases xrg_cases x4 (lo := 0) (hi := 80) (by omega) (by omega) with ⟨ec4, hc4⟩ | ⟨k4, hk4, hl4, rfl, ec4⟩
    · skip
      refine xi_iload_n dX9_copy_0 rfl ?_
      refine xi_callS [.int (nI k0)] [] dX9_copy_1 zX9_isTape mlX9_363 rfl rfl rfl (Nat.le_of_ble_eq_true rfl) (Nat.le_of_ble_eq_true rfl) ⟨by decide, by decide⟩ ?_
      refine g_isTpT (k := k0) (by omega) ?_
      show WP _ _ 4 _ [.int (xb true)] _ _
      refine xb_if_eq true 14 dX9_copy_4 (by decide) rfl (fun z => absurd z (by decide)) (fun _ => ?_)
      refine xi_iload_n dX9_copy_7 rfl ?_
      refine xi_callS [.int (nI k2)] [] dX9_copy_8 zX9_isTape mlX9_363 rfl rfl rfl (Nat.le_of_ble_eq_true rfl) (Nat.le_of_ble_eq_true rfl) ⟨by decide, by decide⟩ ?_
      refine g_isTpT (k := k2) (by omega) ?_
      show WP _ _ 11 _ [.int (xb true)] _ _
      refine xb_if_ne true 16 dX9_copy_11 (by decide) rfl (fun _ => ?_) (fun z => absurd z (by decide))
      refine xi_aload_n dX9_copy_16 rfl ?_
      refine xi_getR dX9_copy_17 fgX9_60 cc0 rfl ?_
      refine xi_iload_n dX9_copy_20 rfl ?_
      refine xe_aald6 (j := (43 + 3 * k0)) k0 dX9_copy_21 cc21 (by decide) rfl (by omega) (if_pos (by omega)) ?_
      refine xi_astore (lv' := [some (.ref 0), some (.int (nI k0)), some (.int x1), some (.int (nI k2)), some (.int x3), some (.int x4), some (.ref (43 + 3 * k0)), none]) dX9_copy_22 (by decide) rfl ?_
      refine xi_aload_n dX9_copy_24 rfl ?_
      refine xi_getR dX9_copy_25 fgX9_60 cc0 rfl ?_
      refine xi_iload_n dX9_copy_28 rfl ?_
      refine xe_aald6 (j := (43 + 3 * k2)) k2 dX9_copy_29 cc21 (by decide) rfl (by omega) (if_pos (by omega)) ?_
      refine xi_astore (lv' := [some (.ref 0), some (.int (nI k0)), some (.int x1), some (.int (nI k2)), some (.int x3), some (.int x4), some (.ref (43 + 3 * k0)), some (.ref (43 + 3 * k2))]) dX9_copy_30 (by decide) rfl ?_
      refine xat 32 rfl ?_
      refine xi_aload dX9_copy_32 rfl ?_
      refine xe_getI (v := nI ((tp k0).1)) dX9_copy_34 fgX9_366 (tpo (isTp_d (d := k0) (by omega))) rfl (hKT k0 (by omega)).1 ?_
      refine xn_if_eq ((tp k0).1) 48 dX9_copy_37 (by decide) rfl (by omega) (fun h37 => ?_) (fun h37 => ?_)
      · skip
        refine xi_aload_n dX9_copy_48 rfl ?_
        refine xi_bipush (v := (-11)) dX9_copy_49 (by decide) ?_
        refine xi_callV [.int (-11)] [] dX9_copy_51 zX9_refuse mlX9_369 cc0 rfl rfl rfl rfl rfl (Nat.le_of_ble_eq_true rfl) (Nat.le_of_ble_eq_true rfl) ⟨by decide, by decide⟩ ?_
        refine c_refuse (x := (-11)) hhr ?_
        show WP _ _ 54 _ [.int (-11)] _ _
        refine xi_iret (v := (-11)) dX9_copy_54 rfl ?_
        simp only [st_copy, ec0, ec2] at h
        rw [if_pos hs2] at h
        exact h _ (RepC_ref hC)
      · skip
        refine xi_aload dX9_copy_40 rfl ?_
        refine xe_getI (v := nI ((tp k2).1)) dX9_copy_42 fgX9_366 (tpo (isTp_d (d := k2) (by omega))) rfl (hKT k2 (by omega)).1 ?_
        refine xn_if_ne ((tp k2).1) 55 dX9_copy_45 (by decide) rfl (by omega) (fun h45 => ?_) (fun h45 => ?_)
        · omega
        · skip
          refine xi_aload_n dX9_copy_48 rfl ?_
          refine xi_bipush (v := (-11)) dX9_copy_49 (by decide) ?_
          refine xi_callV [.int (-11)] [] dX9_copy_51 zX9_refuse mlX9_369 cc0 rfl rfl rfl rfl rfl (Nat.le_of_ble_eq_true rfl) (Nat.le_of_ble_eq_true rfl) ⟨by decide, by decide⟩ ?_
          refine c_refuse (x := (-11)) hhr ?_
          show WP _ _ 54 _ [.int (-11)] _ _
          refine xi_iret (v := (-11)) dX9_copy_54 rfl ?_
          simp only [st_copy, ec0, ec2] at h
          rw [if_pos hs2] at h
          exact h _ (RepC_ref hC)
    rcases xrg_cases x1 (lo := 0) (hi := 80) (by omega) (by omega) with ⟨ec1, hc1⟩ | ⟨k1, hk1, hl1, rfl, ec1⟩
    · skip
      refine xi_iload_n dX9_copy_0 rfl ?_
      refine xi_callS [.int (nI k0)] [] dX9_copy_1 zX9_isTape mlX9_363 rfl rfl rfl (Nat.le_of_ble_eq_true rfl) (Nat.le_of_ble_eq_true rfl) ⟨by decide, by decide⟩ ?_
      refine g_isTpT (k := k0) (by omega) ?_
      show WP _ _ 4 _ [.int (xb true)] _ _
      refine xb_if_eq true 14 dX9_copy_4 (by decide) rfl (fun z => absurd z (by decide)) (fun _ => ?_)
      refine xi_iload_n dX9_copy_7 rfl ?_
      refine xi_callS [.int (nI k2)] [] dX9_copy_8 zX9_isTape mlX9_363 rfl rfl rfl (Nat.le_of_ble_eq_true rfl) (Nat.le_of_ble_eq_true rfl) ⟨by decide, by decide⟩ ?_
      refine g_isTpT (k := k2) (by omega) ?_
      show WP _ _ 11 _ [.int (xb true)] _ _
      refine xb_if_ne true 16 dX9_copy_11 (by decide) rfl (fun _ => ?_) (fun z => absurd z (by decide))
      refine xi_aload_n dX9_copy_16 rfl ?_
      refine xi_getR dX9_copy_17 fgX9_60 cc0 rfl ?_
      refine xi_iload_n dX9_copy_20 rfl ?_
      refine xe_aald6 (j := (43 + 3 * k0)) k0 dX9_copy_21 cc21 (by decide) rfl (by omega) (if_pos (by omega)) ?_
      refine xi_astore (lv' := [some (.ref 0), some (.int (nI k0)), some (.int x1), some (.int (nI k2)), some (.int x3), some (.int (nI k4)), some (.ref (43 + 3 * k0)), none]) dX9_copy_22 (by decide) rfl ?_
      refine xi_aload_n dX9_copy_24 rfl ?_
      refine xi_getR dX9_copy_25 fgX9_60 cc0 rfl ?_
      refine xi_iload_n dX9_copy_28 rfl ?_
      refine xe_aald6 (j := (43 + 3 * k2)) k2 dX9_copy_29 cc21 (by decide) rfl (by omega) (if_pos (by omega)) ?_
      refine xi_astore (lv' := [some (.ref 0), some (.int (nI k0)), some (.int x1), some (.int (nI k2)), some (.int x3), some (.int (nI k4)), some (.ref (43 + 3 * k0)), some (.ref (43 + 3 * k2))]) dX9_copy_30 (by decide) rfl ?_
      refine xat 32 rfl ?_
      refine xi_aload dX9_copy_32 rfl ?_
      refine xe_getI (v := nI ((tp k0).1)) dX9_copy_34 fgX9_366 (tpo (isTp_d (d := k0) (by omega))) rfl (hKT k0 (by omega)).1 ?_
      refine xn_if_eq ((tp k0).1) 48 dX9_copy_37 (by decide) rfl (by omega) (fun h37 => ?_) (fun h37 => ?_)
      · skip
        refine xi_aload_n dX9_copy_48 rfl ?_
        refine xi_bipush (v := (-11)) dX9_copy_49 (by decide) ?_
        refine xi_callV [.int (-11)] [] dX9_copy_51 zX9_refuse mlX9_369 cc0 rfl rfl rfl rfl rfl (Nat.le_of_ble_eq_true rfl) (Nat.le_of_ble_eq_true rfl) ⟨by decide, by decide⟩ ?_
        refine c_refuse (x := (-11)) hhr ?_
        show WP _ _ 54 _ [.int (-11)] _ _
        refine xi_iret (v := (-11)) dX9_copy_54 rfl ?_
        simp only [st_copy, ec0, ec2] at h
        rw [if_pos hs2] at h
        exact h _ (RepC_ref hC)
      · skip
        refine xi_aload dX9_copy_40 rfl ?_
        refine xe_getI (v := nI ((tp k2).1)) dX9_copy_42 fgX9_366 (tpo (isTp_d (d := k2) (by omega))) rfl (hKT k2 (by omega)).1 ?_
        refine xn_if_ne ((tp k2).1) 55 dX9_copy_45 (by decide) rfl (by omega) (fun h45 => ?_) (fun h45 => ?_)
        · omega
        · skip
          refine xi_aload_n dX9_copy_48 rfl ?_
          refine xi_bipush (v := (-11)) dX9_copy_49 (by decide) ?_
          refine xi_callV [.int (-11)] [] dX9_copy_51 zX9_refuse mlX9_369 cc0 rfl rfl rfl rfl rfl (Nat.le_of_ble_eq_true rfl) (Nat.le_of_ble_eq_true rfl) ⟨by decide, by decide⟩ ?_
          refine c_refuse (x := (-11)) hhr ?_
          show WP _ _ 54 _ [.int (-11)] _ _
          refine xi_iret (v := (-11)) dX9_copy_54 rfl ?_
          simp only [st_copy, ec0, ec2] at h
          rw [if_pos hs2] at h
          exact h _ (RepC_ref hC)
    rcases xrg_cases x3 (lo := 0) (hi := 80) (by omega) (by omega) with ⟨ec3, hc3⟩ | ⟨k3, hk3, hl3, rfl, ec3⟩
    · skip
      refine xi_iload_n dX9_copy_0 rfl ?_
      refine xi_callS [.int (nI k0)] [] dX9_copy_1 zX9_isTape mlX9_363 rfl rfl rfl (Nat.le_of_ble_eq_true rfl) (Nat.le_of_ble_eq_true rfl) ⟨by decide, by decide⟩ ?_
      refine g_isTpT (k := k0) (by omega) ?_
      show WP _ _ 4 _ [.int (xb true)] _ _
      refine xb_if_eq true 14 dX9_copy_4 (by decide) rfl (fun z => absurd z (by decide)) (fun _ => ?_)
      refine xi_iload_n dX9_copy_7 rfl ?_
      refine xi_callS [.int (nI k2)] [] dX9_copy_8 zX9_isTape mlX9_363 rfl rfl rfl (Nat.le_of_ble_eq_true rfl) (Nat.le_of_ble_eq_true rfl) ⟨by decide, by decide⟩ ?_
      refine g_isTpT (k := k2) (by omega) ?_
      show WP _ _ 11 _ [.int (xb true)] _ _
      refine xb_if_ne true 16 dX9_copy_11 (by decide) rfl (fun _ => ?_) (fun z => absurd z (by decide))
      refine xi_aload_n dX9_copy_16 rfl ?_
      refine xi_getR dX9_copy_17 fgX9_60 cc0 rfl ?_
      refine xi_iload_n dX9_copy_20 rfl ?_
      refine xe_aald6 (j := (43 + 3 * k0)) k0 dX9_copy_21 cc21 (by decide) rfl (by omega) (if_pos (by omega)) ?_
      refine xi_astore (lv' := [some (.ref 0), some (.int (nI k0)), some (.int (nI k1)), some (.int (nI k2)), some (.int x3), some (.int (nI k4)), some (.ref (43 + 3 * k0)), none]) dX9_copy_22 (by decide) rfl ?_
      refine xi_aload_n dX9_copy_24 rfl ?_
      refine xi_getR dX9_copy_25 fgX9_60 cc0 rfl ?_
      refine xi_iload_n dX9_copy_28 rfl ?_
      refine xe_aald6 (j := (43 + 3 * k2)) k2 dX9_copy_29 cc21 (by decide) rfl (by omega) (if_pos (by omega)) ?_
      refine xi_astore (lv' := [some (.ref 0), some (.int (nI k0)), some (.int (nI k1)), some (.int (nI k2)), some (.int x3), some (.int (nI k4)), some (.ref (43 + 3 * k0)), some (.ref (43 + 3 * k2))]) dX9_copy_30 (by decide) rfl ?_
      refine xat 32 rfl ?_
      refine xi_aload dX9_copy_32 rfl ?_
      refine xe_getI (v := nI ((tp k0).1)) dX9_copy_34 fgX9_366 (tpo (isTp_d (d := k0) (by omega))) rfl (hKT k0 (by omega)).1 ?_
      refine xn_if_eq ((tp k0).1) 48 dX9_copy_37 (by decide) rfl (by omega) (fun h37 => ?_) (fun h37 => ?_)
      · skip
        refine xi_aload_n dX9_copy_48 rfl ?_
        refine xi_bipush (v := (-11)) dX9_copy_49 (by decide) ?_
        refine xi_callV [.int (-11)] [] dX9_copy_51 zX9_refuse mlX9_369 cc0 rfl rfl rfl rfl rfl (Nat.le_of_ble_eq_true rfl) (Nat.le_of_ble_eq_true rfl) ⟨by decide, by decide⟩ ?_
        refine c_refuse (x := (-11)) hhr ?_
        show WP _ _ 54 _ [.int (-11)] _ _
        refine xi_iret (v := (-11)) dX9_copy_54 rfl ?_
        simp only [st_copy, ec0, ec2] at h
        rw [if_pos hs2] at h
        exact h _ (RepC_ref hC)
      · skip
        refine xi_aload dX9_copy_40 rfl ?_
        refine xe_getI (v := nI ((tp k2).1)) dX9_copy_42 fgX9_366 (tpo (isTp_d (d := k2) (by omega))) rfl (hKT k2 (by omega)).1 ?_
        refine xn_if_ne ((tp k2).1) 55 dX9_copy_45 (by decide) rfl (by omega) (fun h45 => ?_) (fun h45 => ?_)
        · omega
        · skip
          refine xi_aload_n dX9_copy_48 rfl ?_
          refine xi_bipush (v := (-11)) dX9_copy_49 (by decide) ?_
          refine xi_callV [.int (-11)] [] dX9_copy_51 zX9_refuse mlX9_369 cc0 rfl rfl rfl rfl rfl (Nat.le_of_ble_eq_true rfl) (Nat.le_of_ble_eq_true rfl) ⟨by decide, by decide⟩ ?_
          refine c_refuse (x := (-11)) hhr ?_
          show WP _ _ 54 _ [.int (-11)] _ _
          refine xi_iret (v := (-11)) dX9_copy_54 rfl ?_
          simp only [st_copy, ec0, ec2] at h
          rw [if_pos hs2] at h
          exact h _ (RepC_ref hC)
    refine xi_iload_n dX9_copy_0 rfl ?_
    refine xi_callS [.int (nI k0)] [] dX9_copy_1 zX9_isTape mlX9_363 rfl rfl rfl (Nat.le_of_ble_eq_true rfl) (Nat.le_of_ble_eq_true rfl) ⟨by decide, by decide⟩ ?_
    refine g_isTpT (k := k0) (by omega) ?_
    show WP _ _ 4 _ [.int (xb true)] _ _
    refine xb_if_eq true 14 dX9_copy_4 (by decide) rfl (fun z => absurd z (by decide)) (fun _ => ?_)
    refine xi_iload_n dX9_copy_7 rfl ?_
    refine xi_callS [.int (nI k2)] [] dX9_copy_8 zX9_isTape mlX9_363 rfl rfl rfl (Nat.le_of_ble_eq_true rfl) (Nat.le_of_ble_eq_true rfl) ⟨by decide, by decide⟩ ?_
    refine g_isTpT (k := k2) (by omega) ?_
    show WP _ _ 11 _ [.int (xb true)] _ _
    refine xb_if_ne true 16 dX9_copy_11 (by decide) rfl (fun _ => ?_) (fun z => absurd z (by decide))
    refine xi_aload_n dX9_copy_16 rfl ?_
    refine xi_getR dX9_copy_17 fgX9_60 cc0 rfl ?_
    refine xi_iload_n dX9_copy_20 rfl ?_
    refine xe_aald6 (j := (43 + 3 * k0)) k0 dX9_copy_21 cc21 (by decide) rfl (by omega) (if_pos (by omega)) ?_
    refine xi_astore (lv' := [some (.ref 0), some (.int (nI k0)), some (.int (nI k1)), some (.int (nI k2)), some (.int (nI k3)), some (.int (nI k4)), some (.ref (43 + 3 * k0)), none]) dX9_copy_22 (by decide) rfl ?_
    refine xi_aload_n dX9_copy_24 rfl ?_
    refine xi_getR dX9_copy_25 fgX9_60 cc0 rfl ?_
    refine xi_iload_n dX9_copy_28 rfl ?_
    refine xe_aald6 (j := (43 + 3 * k2)) k2 dX9_copy_29 cc21 (by decide) rfl (by omega) (if_pos (by omega)) ?_
    refine xi_astore (lv' := [some (.ref 0), some (.int (nI k0)), some (.int (nI k1)), some (.int (nI k2)), some (.int (nI k3)), some (.int (nI k4)), some (.ref (43 + 3 * k0)), some (.ref (43 + 3 * k2))]) dX9_copy_30 (by decide) rfl ?_
    refine xat 32 rfl ?_
    refine xi_aload dX9_copy_32 rfl ?_
    refine xe_getI (v := nI ((tp k0).1)) dX9_copy_34 fgX9_366 (tpo (isTp_d (d := k0) (by omega))) rfl (hKT k0 (by omega)).1 ?_
    refine xn_if_eq ((tp k0).1) 48 dX9_copy_37 (by decide) rfl (by omega) (fun h37 => ?_) (fun h37 => ?_)
    · skip
      refine xi_aload_n dX9_copy_48 rfl ?_
      refine xi_bipush (v := (-11)) dX9_copy_49 (by decide) ?_
      refine xi_callV [.int (-11)] [] dX9_copy_51 zX9_refuse mlX9_369 cc0 rfl rfl rfl rfl rfl (Nat.le_of_ble_eq_true rfl) (Nat.le_of_ble_eq_true rfl) ⟨by decide, by decide⟩ ?_
      refine c_refuse (x := (-11)) hhr ?_
      show WP _ _ 54 _ [.int (-11)] _ _
      refine xi_iret (v := (-11)) dX9_copy_54 rfl ?_
      simp only [st_copy, ec0, ec2] at h
      rw [if_pos hs2] at h
      exact h _ (RepC_ref hC)
    · skip
      refine xi_aload dX9_copy_40 rfl ?_
      refine xe_getI (v := nI ((tp k2).1)) dX9_copy_42 fgX9_366 (tpo (isTp_d (d := k2) (by omega))) rfl (hKT k2 (by omega)).1 ?_
      refine xn_if_ne ((tp k2).1) 55 dX9_copy_45 (by decide) rfl (by omega) (fun h45 => ?_) (fun h45 => ?_)
      · omega
      · skip
        refine xi_aload_n dX9_copy_48 rfl ?_
        refine xi_bipush (v := (-11)) dX9_copy_49 (by decide) ?_
        refine xi_callV [.int (-11)] [] dX9_copy_51 zX9_refuse mlX9_369 cc0 rfl rfl rfl rfl rfl (Nat.le_of_ble_eq_true rfl) (Nat.le_of_ble_eq_true rfl) ⟨by decide, by decide⟩ ?_
        refine c_refuse (x := (-11)) hhr ?_
        show WP _ _ 54 _ [.int (-11)] _ _
        refine xi_iret (v := (-11)) dX9_copy_54 rfl ?_
        simp only [st_copy, ec0, ec2] at h
        rw [if_pos hs2] at h
        exact h _ (RepC_ref hC)
  · skip
    rcases xrg_cases x4 (lo := 0) (hi := 80) (by omega) (by omega) with ⟨ec4, hc4⟩ | ⟨k4, hk4, hl4, rfl, ec4⟩
    · skip
      refine xi_iload_n dX9_copy_0 rfl ?_
      refine xi_callS [.int (nI k0)] [] dX9_copy_1 zX9_isTape mlX9_363 rfl rfl rfl (Nat.le_of_ble_eq_true rfl) (Nat.le_of_ble_eq_true rfl) ⟨by decide, by decide⟩ ?_
      refine g_isTpT (k := k0) (by omega) ?_
      show WP _ _ 4 _ [.int (xb true)] _ _
      refine xb_if_eq true 14 dX9_copy_4 (by decide) rfl (fun z => absurd z (by decide)) (fun _ => ?_)
      refine xi_iload_n dX9_copy_7 rfl ?_
      refine xi_callS [.int (nI k2)] [] dX9_copy_8 zX9_isTape mlX9_363 rfl rfl rfl (Nat.le_of_ble_eq_true rfl) (Nat.le_of_ble_eq_true rfl) ⟨by decide, by decide⟩ ?_
      refine g_isTpT (k := k2) (by omega) ?_
      show WP _ _ 11 _ [.int (xb true)] _ _
      refine xb_if_ne true 16 dX9_copy_11 (by decide) rfl (fun _ => ?_) (fun z => absurd z (by decide))
      refine xi_aload_n dX9_copy_16 rfl ?_
      refine xi_getR dX9_copy_17 fgX9_60 cc0 rfl ?_
      refine xi_iload_n dX9_copy_20 rfl ?_
      refine xe_aald6 (j := (43 + 3 * k0)) k0 dX9_copy_21 cc21 (by decide) rfl (by omega) (if_pos (by omega)) ?_
      refine xi_astore (lv' := [some (.ref 0), some (.int (nI k0)), some (.int x1), some (.int (nI k2)), some (.int x3), some (.int x4), some (.ref (43 + 3 * k0)), none]) dX9_copy_22 (by decide) rfl ?_
      refine xi_aload_n dX9_copy_24 rfl ?_
      refine xi_getR dX9_copy_25 fgX9_60 cc0 rfl ?_
      refine xi_iload_n dX9_copy_28 rfl ?_
      refine xe_aald6 (j := (43 + 3 * k2)) k2 dX9_copy_29 cc21 (by decide) rfl (by omega) (if_pos (by omega)) ?_
      refine xi_astore (lv' := [some (.ref 0), some (.int (nI k0)), some (.int x1), some (.int (nI k2)), some (.int x3), some (.int x4), some (.ref (43 + 3 * k0)), some (.ref (43 + 3 * k2))]) dX9_copy_30 (by decide) rfl ?_
      refine xat 32 rfl ?_
      refine xi_aload dX9_copy_32 rfl ?_
      refine xe_getI (v := nI ((tp k0).1)) dX9_copy_34 fgX9_366 (tpo (isTp_d (d := k0) (by omega))) rfl (hKT k0 (by omega)).1 ?_
      refine xn_if_eq ((tp k0).1) 48 dX9_copy_37 (by decide) rfl (by omega) (fun z => absurd z (by omega)) (fun h37 => ?_)
      refine xi_aload dX9_copy_40 rfl ?_
      refine xe_getI (v := nI ((tp k2).1)) dX9_copy_42 fgX9_366 (tpo (isTp_d (d := k2) (by omega))) rfl (hKT k2 (by omega)).1 ?_
      refine xn_if_ne ((tp k2).1) 55 dX9_copy_45 (by decide) rfl (by omega) (fun h45 => ?_) (fun z => absurd z (by omega))
      refine xi_aload dX9_copy_55 rfl ?_
      refine xi_callV [] [] dX9_copy_57 zX8_isRow mlX9_404 (tpo (isTp_d (d := k0) (by omega))) rfl rfl rfl rfl rfl (Nat.le_of_ble_eq_true rfl) (Nat.le_of_ble_eq_true rfl) ⟨by decide, by decide⟩ ?_
      refine t_isRow (isTp_d (d := k0) (by omega)) (hKT k0 (by omega)).1 (wtq k0).1 ?_
      show WP _ _ 60 _ [.int (xb (decide (1 ≤ (tp k0).1 ∧ (tp k0).1 ≤ 4)))] _ _
      refine xb_if_eq (decide (1 ≤ (tp k0).1 ∧ (tp k0).1 ≤ 4)) 76 dX9_copy_60 (by decide) rfl (fun h60 => ?_) (fun h60 => ?_)
      · skip
        refine xi_aload_n dX9_copy_76 rfl ?_
        refine xi_bipush (v := (-12)) dX9_copy_77 (by decide) ?_
        refine xi_callV [.int (-12)] [] dX9_copy_79 zX9_refuse mlX9_369 cc0 rfl rfl rfl rfl rfl (Nat.le_of_ble_eq_true rfl) (Nat.le_of_ble_eq_true rfl) ⟨by decide, by decide⟩ ?_
        refine c_refuse (x := (-12)) hhr ?_
        show WP _ _ 82 _ [.int (-12)] _ _
        refine xi_iret (v := (-12)) dX9_copy_82 rfl ?_
        simp only [st_copy, ec0, ec2] at h
        rw [if_neg (by omega), if_pos hs2.2] at h
        exact h _ (RepC_ref hC)
      · have r60 := of_decide_eq_true h60
        refine xi_aload dX9_copy_63 rfl ?_
        refine xe_getI (v := nI ((tp k0).1)) dX9_copy_65 fgX9_366 (tpo (isTp_d (d := k0) (by omega))) rfl (hKT k0 (by omega)).1 ?_
        refine xi_aload dX9_copy_68 rfl ?_
        refine xe_getI (v := nI ((tp k2).1)) dX9_copy_70 fgX9_366 (tpo (isTp_d (d := k2) (by omega))) rfl (hKT k2 (by omega)).1 ?_
        refine xn_icmp_eq ((tp k0).1) ((tp k2).1) 83 dX9_copy_73 (by decide) rfl rfl (by omega) (by omega) (fun h73 => ?_) (fun h73 => ?_)
        · omega
        · skip
          refine xi_aload_n dX9_copy_76 rfl ?_
          refine xi_bipush (v := (-12)) dX9_copy_77 (by decide) ?_
          refine xi_callV [.int (-12)] [] dX9_copy_79 zX9_refuse mlX9_369 cc0 rfl rfl rfl rfl rfl (Nat.le_of_ble_eq_true rfl) (Nat.le_of_ble_eq_true rfl) ⟨by decide, by decide⟩ ?_
          refine c_refuse (x := (-12)) hhr ?_
          show WP _ _ 82 _ [.int (-12)] _ _
          refine xi_iret (v := (-12)) dX9_copy_82 rfl ?_
          simp only [st_copy, ec0, ec2] at h
          rw [if_neg (by omega), if_pos hs2.2] at h
          exact h _ (RepC_ref hC)
    rcases xrg_cases x1 (lo := 0) (hi := 80) (by omega) (by omega) with ⟨ec1, hc1⟩ | ⟨k1, hk1, hl1, rfl, ec1⟩
    · skip
      refine xi_iload_n dX9_copy_0 rfl ?_
      refine xi_callS [.int (nI k0)] [] dX9_copy_1 zX9_isTape mlX9_363 rfl rfl rfl (Nat.le_of_ble_eq_true rfl) (Nat.le_of_ble_eq_true rfl) ⟨by decide, by decide⟩ ?_
      refine g_isTpT (k := k0) (by omega) ?_
      show WP _ _ 4 _ [.int (xb true)] _ _
      refine xb_if_eq true 14 dX9_copy_4 (by decide) rfl (fun z => absurd z (by decide)) (fun _ => ?_)
      refine xi_iload_n dX9_copy_7 rfl ?_
      refine xi_callS [.int (nI k2)] [] dX9_copy_8 zX9_isTape mlX9_363 rfl rfl rfl (Nat.le_of_ble_eq_true rfl) (Nat.le_of_ble_eq_true rfl) ⟨by decide, by decide⟩ ?_
      refine g_isTpT (k := k2) (by omega) ?_
      show WP _ _ 11 _ [.int (xb true)] _ _
      refine xb_if_ne true 16 dX9_copy_11 (by decide) rfl (fun _ => ?_) (fun z => absurd z (by decide))
      refine xi_aload_n dX9_copy_16 rfl ?_
      refine xi_getR dX9_copy_17 fgX9_60 cc0 rfl ?_
      refine xi_iload_n dX9_copy_20 rfl ?_
      refine xe_aald6 (j := (43 + 3 * k0)) k0 dX9_copy_21 cc21 (by decide) rfl (by omega) (if_pos (by omega)) ?_
      refine xi_astore (lv' := [some (.ref 0), some (.int (nI k0)), some (.int x1), some (.int (nI k2)), some (.int x3), some (.int (nI k4)), some (.ref (43 + 3 * k0)), none]) dX9_copy_22 (by decide) rfl ?_
      refine xi_aload_n dX9_copy_24 rfl ?_
      refine xi_getR dX9_copy_25 fgX9_60 cc0 rfl ?_
      refine xi_iload_n dX9_copy_28 rfl ?_
      refine xe_aald6 (j := (43 + 3 * k2)) k2 dX9_copy_29 cc21 (by decide) rfl (by omega) (if_pos (by omega)) ?_
      refine xi_astore (lv' := [some (.ref 0), some (.int (nI k0)), some (.int x1), some (.int (nI k2)), some (.int x3), some (.int (nI k4)), some (.ref (43 + 3 * k0)), some (.ref (43 + 3 * k2))]) dX9_copy_30 (by decide) rfl ?_
      refine xat 32 rfl ?_
      refine xi_aload dX9_copy_32 rfl ?_
      refine xe_getI (v := nI ((tp k0).1)) dX9_copy_34 fgX9_366 (tpo (isTp_d (d := k0) (by omega))) rfl (hKT k0 (by omega)).1 ?_
      refine xn_if_eq ((tp k0).1) 48 dX9_copy_37 (by decide) rfl (by omega) (fun z => absurd z (by omega)) (fun h37 => ?_)
      refine xi_aload dX9_copy_40 rfl ?_
      refine xe_getI (v := nI ((tp k2).1)) dX9_copy_42 fgX9_366 (tpo (isTp_d (d := k2) (by omega))) rfl (hKT k2 (by omega)).1 ?_
      refine xn_if_ne ((tp k2).1) 55 dX9_copy_45 (by decide) rfl (by omega) (fun h45 => ?_) (fun z => absurd z (by omega))
      refine xi_aload dX9_copy_55 rfl ?_
      refine xi_callV [] [] dX9_copy_57 zX8_isRow mlX9_404 (tpo (isTp_d (d := k0) (by omega))) rfl rfl rfl rfl rfl (Nat.le_of_ble_eq_true rfl) (Nat.le_of_ble_eq_true rfl) ⟨by decide, by decide⟩ ?_
      refine t_isRow (isTp_d (d := k0) (by omega)) (hKT k0 (by omega)).1 (wtq k0).1 ?_
      show WP _ _ 60 _ [.int (xb (decide (1 ≤ (tp k0).1 ∧ (tp k0).1 ≤ 4)))] _ _
      refine xb_if_eq (decide (1 ≤ (tp k0).1 ∧ (tp k0).1 ≤ 4)) 76 dX9_copy_60 (by decide) rfl (fun h60 => ?_) (fun h60 => ?_)
      · skip
        refine xi_aload_n dX9_copy_76 rfl ?_
        refine xi_bipush (v := (-12)) dX9_copy_77 (by decide) ?_
        refine xi_callV [.int (-12)] [] dX9_copy_79 zX9_refuse mlX9_369 cc0 rfl rfl rfl rfl rfl (Nat.le_of_ble_eq_true rfl) (Nat.le_of_ble_eq_true rfl) ⟨by decide, by decide⟩ ?_
        refine c_refuse (x := (-12)) hhr ?_
        show WP _ _ 82 _ [.int (-12)] _ _
        refine xi_iret (v := (-12)) dX9_copy_82 rfl ?_
        simp only [st_copy, ec0, ec2] at h
        rw [if_neg (by omega), if_pos hs2.2] at h
        exact h _ (RepC_ref hC)
      · have r60 := of_decide_eq_true h60
        refine xi_aload dX9_copy_63 rfl ?_
        refine xe_getI (v := nI ((tp k0).1)) dX9_copy_65 fgX9_366 (tpo (isTp_d (d := k0) (by omega))) rfl (hKT k0 (by omega)).1 ?_
        refine xi_aload dX9_copy_68 rfl ?_
        refine xe_getI (v := nI ((tp k2).1)) dX9_copy_70 fgX9_366 (tpo (isTp_d (d := k2) (by omega))) rfl (hKT k2 (by omega)).1 ?_
        refine xn_icmp_eq ((tp k0).1) ((tp k2).1) 83 dX9_copy_73 (by decide) rfl rfl (by omega) (by omega) (fun h73 => ?_) (fun h73 => ?_)
        · omega
        · skip
          refine xi_aload_n dX9_copy_76 rfl ?_
          refine xi_bipush (v := (-12)) dX9_copy_77 (by decide) ?_
          refine xi_callV [.int (-12)] [] dX9_copy_79 zX9_refuse mlX9_369 cc0 rfl rfl rfl rfl rfl (Nat.le_of_ble_eq_true rfl) (Nat.le_of_ble_eq_true rfl) ⟨by decide, by decide⟩ ?_
          refine c_refuse (x := (-12)) hhr ?_
          show WP _ _ 82 _ [.int (-12)] _ _
          refine xi_iret (v := (-12)) dX9_copy_82 rfl ?_
          simp only [st_copy, ec0, ec2] at h
          rw [if_neg (by omega), if_pos hs2.2] at h
          exact h _ (RepC_ref hC)
    rcases xrg_cases x3 (lo := 0) (hi := 80) (by omega) (by omega) with ⟨ec3, hc3⟩ | ⟨k3, hk3, hl3, rfl, ec3⟩
    · skip
      refine xi_iload_n dX9_copy_0 rfl ?_
      refine xi_callS [.int (nI k0)] [] dX9_copy_1 zX9_isTape mlX9_363 rfl rfl rfl (Nat.le_of_ble_eq_true rfl) (Nat.le_of_ble_eq_true rfl) ⟨by decide, by decide⟩ ?_
      refine g_isTpT (k := k0) (by omega) ?_
      show WP _ _ 4 _ [.int (xb true)] _ _
      refine xb_if_eq true 14 dX9_copy_4 (by decide) rfl (fun z => absurd z (by decide)) (fun _ => ?_)
      refine xi_iload_n dX9_copy_7 rfl ?_
      refine xi_callS [.int (nI k2)] [] dX9_copy_8 zX9_isTape mlX9_363 rfl rfl rfl (Nat.le_of_ble_eq_true rfl) (Nat.le_of_ble_eq_true rfl) ⟨by decide, by decide⟩ ?_
      refine g_isTpT (k := k2) (by omega) ?_
      show WP _ _ 11 _ [.int (xb true)] _ _
      refine xb_if_ne true 16 dX9_copy_11 (by decide) rfl (fun _ => ?_) (fun z => absurd z (by decide))
      refine xi_aload_n dX9_copy_16 rfl ?_
      refine xi_getR dX9_copy_17 fgX9_60 cc0 rfl ?_
      refine xi_iload_n dX9_copy_20 rfl ?_
      refine xe_aald6 (j := (43 + 3 * k0)) k0 dX9_copy_21 cc21 (by decide) rfl (by omega) (if_pos (by omega)) ?_
      refine xi_astore (lv' := [some (.ref 0), some (.int (nI k0)), some (.int (nI k1)), some (.int (nI k2)), some (.int x3), some (.int (nI k4)), some (.ref (43 + 3 * k0)), none]) dX9_copy_22 (by decide) rfl ?_
      refine xi_aload_n dX9_copy_24 rfl ?_
      refine xi_getR dX9_copy_25 fgX9_60 cc0 rfl ?_
      refine xi_iload_n dX9_copy_28 rfl ?_
      refine xe_aald6 (j := (43 + 3 * k2)) k2 dX9_copy_29 cc21 (by decide) rfl (by omega) (if_pos (by omega)) ?_
      refine xi_astore (lv' := [some (.ref 0), some (.int (nI k0)), some (.int (nI k1)), some (.int (nI k2)), some (.int x3), some (.int (nI k4)), some (.ref (43 + 3 * k0)), some (.ref (43 + 3 * k2))]) dX9_copy_30 (by decide) rfl ?_
      refine xat 32 rfl ?_
      refine xi_aload dX9_copy_32 rfl ?_
      refine xe_getI (v := nI ((tp k0).1)) dX9_copy_34 fgX9_366 (tpo (isTp_d (d := k0) (by omega))) rfl (hKT k0 (by omega)).1 ?_
      refine xn_if_eq ((tp k0).1) 48 dX9_copy_37 (by decide) rfl (by omega) (fun z => absurd z (by omega)) (fun h37 => ?_)
      refine xi_aload dX9_copy_40 rfl ?_
      refine xe_getI (v := nI ((tp k2).1)) dX9_copy_42 fgX9_366 (tpo (isTp_d (d := k2) (by omega))) rfl (hKT k2 (by omega)).1 ?_
      refine xn_if_ne ((tp k2).1) 55 dX9_copy_45 (by decide) rfl (by omega) (fun h45 => ?_) (fun z => absurd z (by omega))
      refine xi_aload dX9_copy_55 rfl ?_
      refine xi_callV [] [] dX9_copy_57 zX8_isRow mlX9_404 (tpo (isTp_d (d := k0) (by omega))) rfl rfl rfl rfl rfl (Nat.le_of_ble_eq_true rfl) (Nat.le_of_ble_eq_true rfl) ⟨by decide, by decide⟩ ?_
      refine t_isRow (isTp_d (d := k0) (by omega)) (hKT k0 (by omega)).1 (wtq k0).1 ?_
      show WP _ _ 60 _ [.int (xb (decide (1 ≤ (tp k0).1 ∧ (tp k0).1 ≤ 4)))] _ _
      refine xb_if_eq (decide (1 ≤ (tp k0).1 ∧ (tp k0).1 ≤ 4)) 76 dX9_copy_60 (by decide) rfl (fun h60 => ?_) (fun h60 => ?_)
      · skip
        refine xi_aload_n dX9_copy_76 rfl ?_
        refine xi_bipush (v := (-12)) dX9_copy_77 (by decide) ?_
        refine xi_callV [.int (-12)] [] dX9_copy_79 zX9_refuse mlX9_369 cc0 rfl rfl rfl rfl rfl (Nat.le_of_ble_eq_true rfl) (Nat.le_of_ble_eq_true rfl) ⟨by decide, by decide⟩ ?_
        refine c_refuse (x := (-12)) hhr ?_
        show WP _ _ 82 _ [.int (-12)] _ _
        refine xi_iret (v := (-12)) dX9_copy_82 rfl ?_
        simp only [st_copy, ec0, ec2] at h
        rw [if_neg (by omega), if_pos hs2.2] at h
        exact h _ (RepC_ref hC)
      · have r60 := of_decide_eq_true h60
        refine xi_aload dX9_copy_63 rfl ?_
        refine xe_getI (v := nI ((tp k0).1)) dX9_copy_65 fgX9_366 (tpo (isTp_d (d := k0) (by omega))) rfl (hKT k0 (by omega)).1 ?_
        refine xi_aload dX9_copy_68 rfl ?_
        refine xe_getI (v := nI ((tp k2).1)) dX9_copy_70 fgX9_366 (tpo (isTp_d (d := k2) (by omega))) rfl (hKT k2 (by omega)).1 ?_
        refine xn_icmp_eq ((tp k0).1) ((tp k2).1) 83 dX9_copy_73 (by decide) rfl rfl (by omega) (by omega) (fun h73 => ?_) (fun h73 => ?_)
        · omega
        · skip
          refine xi_aload_n dX9_copy_76 rfl ?_
          refine xi_bipush (v := (-12)) dX9_copy_77 (by decide) ?_
          refine xi_callV [.int (-12)] [] dX9_copy_79 zX9_refuse mlX9_369 cc0 rfl rfl rfl rfl rfl (Nat.le_of_ble_eq_true rfl) (Nat.le_of_ble_eq_true rfl) ⟨by decide, by decide⟩ ?_
          refine c_refuse (x := (-12)) hhr ?_
          show WP _ _ 82 _ [.int (-12)] _ _
          refine xi_iret (v := (-12)) dX9_copy_82 rfl ?_
          simp only [st_copy, ec0, ec2] at h
          rw [if_neg (by omega), if_pos hs2.2] at h
          exact h _ (RepC_ref hC)
    refine xi_iload_n dX9_copy_0 rfl ?_
    refine xi_callS [.int (nI k0)] [] dX9_copy_1 zX9_isTape mlX9_363 rfl rfl rfl (Nat.le_of_ble_eq_true rfl) (Nat.le_of_ble_eq_true rfl) ⟨by decide, by decide⟩ ?_
    refine g_isTpT (k := k0) (by omega) ?_
    show WP _ _ 4 _ [.int (xb true)] _ _
    refine xb_if_eq true 14 dX9_copy_4 (by decide) rfl (fun z => absurd z (by decide)) (fun _ => ?_)
    refine xi_iload_n dX9_copy_7 rfl ?_
    refine xi_callS [.int (nI k2)] [] dX9_copy_8 zX9_isTape mlX9_363 rfl rfl rfl (Nat.le_of_ble_eq_true rfl) (Nat.le_of_ble_eq_true rfl) ⟨by decide, by decide⟩ ?_
    refine g_isTpT (k := k2) (by omega) ?_
    show WP _ _ 11 _ [.int (xb true)] _ _
    refine xb_if_ne true 16 dX9_copy_11 (by decide) rfl (fun _ => ?_) (fun z => absurd z (by decide))
    refine xi_aload_n dX9_copy_16 rfl ?_
    refine xi_getR dX9_copy_17 fgX9_60 cc0 rfl ?_
    refine xi_iload_n dX9_copy_20 rfl ?_
    refine xe_aald6 (j := (43 + 3 * k0)) k0 dX9_copy_21 cc21 (by decide) rfl (by omega) (if_pos (by omega)) ?_
    refine xi_astore (lv' := [some (.ref 0), some (.int (nI k0)), some (.int (nI k1)), some (.int (nI k2)), some (.int (nI k3)), some (.int (nI k4)), some (.ref (43 + 3 * k0)), none]) dX9_copy_22 (by decide) rfl ?_
    refine xi_aload_n dX9_copy_24 rfl ?_
    refine xi_getR dX9_copy_25 fgX9_60 cc0 rfl ?_
    refine xi_iload_n dX9_copy_28 rfl ?_
    refine xe_aald6 (j := (43 + 3 * k2)) k2 dX9_copy_29 cc21 (by decide) rfl (by omega) (if_pos (by omega)) ?_
    refine xi_astore (lv' := [some (.ref 0), some (.int (nI k0)), some (.int (nI k1)), some (.int (nI k2)), some (.int (nI k3)), some (.int (nI k4)), some (.ref (43 + 3 * k0)), some (.ref (43 + 3 * k2))]) dX9_copy_30 (by decide) rfl ?_
    refine xat 32 rfl ?_
    refine xi_aload dX9_copy_32 rfl ?_
    refine xe_getI (v := nI ((tp k0).1)) dX9_copy_34 fgX9_366 (tpo (isTp_d (d := k0) (by omega))) rfl (hKT k0 (by omega)).1 ?_
    refine xn_if_eq ((tp k0).1) 48 dX9_copy_37 (by decide) rfl (by omega) (fun z => absurd z (by omega)) (fun h37 => ?_)
    refine xi_aload dX9_copy_40 rfl ?_
    refine xe_getI (v := nI ((tp k2).1)) dX9_copy_42 fgX9_366 (tpo (isTp_d (d := k2) (by omega))) rfl (hKT k2 (by omega)).1 ?_
    refine xn_if_ne ((tp k2).1) 55 dX9_copy_45 (by decide) rfl (by omega) (fun h45 => ?_) (fun z => absurd z (by omega))
    refine xi_aload dX9_copy_55 rfl ?_
    refine xi_callV [] [] dX9_copy_57 zX8_isRow mlX9_404 (tpo (isTp_d (d := k0) (by omega))) rfl rfl rfl rfl rfl (Nat.le_of_ble_eq_true rfl) (Nat.le_of_ble_eq_true rfl) ⟨by decide, by decide⟩ ?_
    refine t_isRow (isTp_d (d := k0) (by omega)) (hKT k0 (by omega)).1 (wtq k0).1 ?_
    show WP _ _ 60 _ [.int (xb (decide (1 ≤ (tp k0).1 ∧ (tp k0).1 ≤ 4)))] _ _
    refine xb_if_eq (decide (1 ≤ (tp k0).1 ∧ (tp k0).1 ≤ 4)) 76 dX9_copy_60 (by decide) rfl (fun h60 => ?_) (fun h60 => ?_)
    · skip
      refine xi_aload_n dX9_copy_76 rfl ?_
      refine xi_bipush (v := (-12)) dX9_copy_77 (by decide) ?_
      refine xi_callV [.int (-12)] [] dX9_copy_79 zX9_refuse mlX9_369 cc0 rfl rfl rfl rfl rfl (Nat.le_of_ble_eq_true rfl) (Nat.le_of_ble_eq_true rfl) ⟨by decide, by decide⟩ ?_
      refine c_refuse (x := (-12)) hhr ?_
      show WP _ _ 82 _ [.int (-12)] _ _
      refine xi_iret (v := (-12)) dX9_copy_82 rfl ?_
      simp only [st_copy, ec0, ec2] at h
      rw [if_neg (by omega), if_pos hs2.2] at h
      exact h _ (RepC_ref hC)
    · have r60 := of_decide_eq_true h60
      refine xi_aload dX9_copy_63 rfl ?_
      refine xe_getI (v := nI ((tp k0).1)) dX9_copy_65 fgX9_366 (tpo (isTp_d (d := k0) (by omega))) rfl (hKT k0 (by omega)).1 ?_
      refine xi_aload dX9_copy_68 rfl ?_
      refine xe_getI (v := nI ((tp k2).1)) dX9_copy_70 fgX9_366 (tpo (isTp_d (d := k2) (by omega))) rfl (hKT k2 (by omega)).1 ?_
      refine xn_icmp_eq ((tp k0).1) ((tp k2).1) 83 dX9_copy_73 (by decide) rfl rfl (by omega) (by omega) (fun h73 => ?_) (fun h73 => ?_)
      · omega
      · skip
        refine xi_aload_n dX9_copy_76 rfl ?_
        refine xi_bipush (v := (-12)) dX9_copy_77 (by decide) ?_
        refine xi_callV [.int (-12)] [] dX9_copy_79 zX9_refuse mlX9_369 cc0 rfl rfl rfl rfl rfl (Nat.le_of_ble_eq_true rfl) (Nat.le_of_ble_eq_true rfl) ⟨by decide, by decide⟩ ?_
        refine c_refuse (x := (-12)) hhr ?_
        show WP _ _ 82 _ [.int (-12)] _ _
        refine xi_iret (v := (-12)) dX9_copy_82 rfl ?_
        simp only [st_copy, ec0, ec2] at h
        rw [if_neg (by omega), if_pos hs2.2] at h
        exact h _ (RepC_ref hC)
  · skip
    rcases xrg_cases x4 (lo := 0) (hi := 80) (by omega) (by omega) with ⟨ec4, hc4⟩ | ⟨k4, hk4, hl4, rfl, ec4⟩
    · skip
      refine xi_iload_n dX9_copy_0 rfl ?_
      refine xi_callS [.int (nI k0)] [] dX9_copy_1 zX9_isTape mlX9_363 rfl rfl rfl (Nat.le_of_ble_eq_true rfl) (Nat.le_of_ble_eq_true rfl) ⟨by decide, by decide⟩ ?_
      refine g_isTpT (k := k0) (by omega) ?_
      show WP _ _ 4 _ [.int (xb true)] _ _
      refine xb_if_eq true 14 dX9_copy_4 (by decide) rfl (fun z => absurd z (by decide)) (fun _ => ?_)
      refine xi_iload_n dX9_copy_7 rfl ?_
      refine xi_callS [.int (nI k2)] [] dX9_copy_8 zX9_isTape mlX9_363 rfl rfl rfl (Nat.le_of_ble_eq_true rfl) (Nat.le_of_ble_eq_true rfl) ⟨by decide, by decide⟩ ?_
      refine g_isTpT (k := k2) (by omega) ?_
      show WP _ _ 11 _ [.int (xb true)] _ _
      refine xb_if_ne true 16 dX9_copy_11 (by decide) rfl (fun _ => ?_) (fun z => absurd z (by decide))
      refine xi_aload_n dX9_copy_16 rfl ?_
      refine xi_getR dX9_copy_17 fgX9_60 cc0 rfl ?_
      refine xi_iload_n dX9_copy_20 rfl ?_
      refine xe_aald6 (j := (43 + 3 * k0)) k0 dX9_copy_21 cc21 (by decide) rfl (by omega) (if_pos (by omega)) ?_
      refine xi_astore (lv' := [some (.ref 0), some (.int (nI k0)), some (.int x1), some (.int (nI k2)), some (.int x3), some (.int x4), some (.ref (43 + 3 * k0)), none]) dX9_copy_22 (by decide) rfl ?_
      refine xi_aload_n dX9_copy_24 rfl ?_
      refine xi_getR dX9_copy_25 fgX9_60 cc0 rfl ?_
      refine xi_iload_n dX9_copy_28 rfl ?_
      refine xe_aald6 (j := (43 + 3 * k2)) k2 dX9_copy_29 cc21 (by decide) rfl (by omega) (if_pos (by omega)) ?_
      refine xi_astore (lv' := [some (.ref 0), some (.int (nI k0)), some (.int x1), some (.int (nI k2)), some (.int x3), some (.int x4), some (.ref (43 + 3 * k0)), some (.ref (43 + 3 * k2))]) dX9_copy_30 (by decide) rfl ?_
      refine xat 32 rfl ?_
      refine xi_aload dX9_copy_32 rfl ?_
      refine xe_getI (v := nI ((tp k0).1)) dX9_copy_34 fgX9_366 (tpo (isTp_d (d := k0) (by omega))) rfl (hKT k0 (by omega)).1 ?_
      refine xn_if_eq ((tp k0).1) 48 dX9_copy_37 (by decide) rfl (by omega) (fun z => absurd z (by omega)) (fun h37 => ?_)
      refine xi_aload dX9_copy_40 rfl ?_
      refine xe_getI (v := nI ((tp k2).1)) dX9_copy_42 fgX9_366 (tpo (isTp_d (d := k2) (by omega))) rfl (hKT k2 (by omega)).1 ?_
      refine xn_if_ne ((tp k2).1) 55 dX9_copy_45 (by decide) rfl (by omega) (fun h45 => ?_) (fun z => absurd z (by omega))
      refine xi_aload dX9_copy_55 rfl ?_
      refine xi_callV [] [] dX9_copy_57 zX8_isRow mlX9_404 (tpo (isTp_d (d := k0) (by omega))) rfl rfl rfl rfl rfl (Nat.le_of_ble_eq_true rfl) (Nat.le_of_ble_eq_true rfl) ⟨by decide, by decide⟩ ?_
      refine t_isRow (isTp_d (d := k0) (by omega)) (hKT k0 (by omega)).1 (wtq k0).1 ?_
      show WP _ _ 60 _ [.int (xb (decide (1 ≤ (tp k0).1 ∧ (tp k0).1 ≤ 4)))] _ _
      refine xb_if_eq (decide (1 ≤ (tp k0).1 ∧ (tp k0).1 ≤ 4)) 76 dX9_copy_60 (by decide) rfl (fun h60 => ?_) (fun h60 => ?_)
      · exact absurd ⟨by omega, by omega⟩ (of_decide_eq_false h60)
      · skip
        refine xi_aload dX9_copy_63 rfl ?_
        refine xe_getI (v := nI ((tp k0).1)) dX9_copy_65 fgX9_366 (tpo (isTp_d (d := k0) (by omega))) rfl (hKT k0 (by omega)).1 ?_
        refine xi_aload dX9_copy_68 rfl ?_
        refine xe_getI (v := nI ((tp k2).1)) dX9_copy_70 fgX9_366 (tpo (isTp_d (d := k2) (by omega))) rfl (hKT k2 (by omega)).1 ?_
        refine xn_icmp_eq ((tp k0).1) ((tp k2).1) 83 dX9_copy_73 (by decide) rfl rfl (by omega) (by omega) (fun h73 => ?_) (fun z => absurd z (by omega))
        refine xi_aload dX9_copy_83 rfl ?_
        refine xi_iload_n dX9_copy_85 rfl ?_
        refine xi_iload dX9_copy_86 rfl ?_
        refine xi_callV [.int x1, .int x4] [] dX9_copy_88 zX8_hasPlaces mlX9_412 (tpo (isTp_d (d := k0) (by omega))) rfl rfl rfl rfl rfl (Nat.le_of_ble_eq_true rfl) (Nat.le_of_ble_eq_true rfl) ⟨by decide, by decide⟩ ?_
        refine t_plR (isTp_d (d := k0) (by omega)) (hKT k0 (by omega)).2.1 (by have := wtq k0; omega) hc4 ?_
        show WP _ _ 91 _ [.int (xb false)] _ _
        refine xb_if_eq false 106 dX9_copy_91 (by decide) rfl (fun _ => ?_) (fun z => absurd z (by decide))
        refine xi_aload_n dX9_copy_106 rfl ?_
        refine xi_bipush (v := (-13)) dX9_copy_107 (by decide) ?_
        refine xi_callV [.int (-13)] [] dX9_copy_109 zX9_refuse mlX9_369 cc0 rfl rfl rfl rfl rfl (Nat.le_of_ble_eq_true rfl) (Nat.le_of_ble_eq_true rfl) ⟨by decide, by decide⟩ ?_
        refine c_refuse (x := (-13)) hhr ?_
        show WP _ _ 112 _ [.int (-13)] _ _
        refine xi_iret (v := (-13)) dX9_copy_112 rfl ?_
        simp only [st_copy, ec0, ec2] at h
        rw [if_neg (by omega), if_neg (by omega)] at h
        simp only [ec4] at h
        exact h _ (RepC_ref hC)
    rcases xrg_cases x1 (lo := 0) (hi := 80) (by omega) (by omega) with ⟨ec1, hc1⟩ | ⟨k1, hk1, hl1, rfl, ec1⟩
    · skip
      refine xi_iload_n dX9_copy_0 rfl ?_
      refine xi_callS [.int (nI k0)] [] dX9_copy_1 zX9_isTape mlX9_363 rfl rfl rfl (Nat.le_of_ble_eq_true rfl) (Nat.le_of_ble_eq_true rfl) ⟨by decide, by decide⟩ ?_
      refine g_isTpT (k := k0) (by omega) ?_
      show WP _ _ 4 _ [.int (xb true)] _ _
      refine xb_if_eq true 14 dX9_copy_4 (by decide) rfl (fun z => absurd z (by decide)) (fun _ => ?_)
      refine xi_iload_n dX9_copy_7 rfl ?_
      refine xi_callS [.int (nI k2)] [] dX9_copy_8 zX9_isTape mlX9_363 rfl rfl rfl (Nat.le_of_ble_eq_true rfl) (Nat.le_of_ble_eq_true rfl) ⟨by decide, by decide⟩ ?_
      refine g_isTpT (k := k2) (by omega) ?_
      show WP _ _ 11 _ [.int (xb true)] _ _
      refine xb_if_ne true 16 dX9_copy_11 (by decide) rfl (fun _ => ?_) (fun z => absurd z (by decide))
      refine xi_aload_n dX9_copy_16 rfl ?_
      refine xi_getR dX9_copy_17 fgX9_60 cc0 rfl ?_
      refine xi_iload_n dX9_copy_20 rfl ?_
      refine xe_aald6 (j := (43 + 3 * k0)) k0 dX9_copy_21 cc21 (by decide) rfl (by omega) (if_pos (by omega)) ?_
      refine xi_astore (lv' := [some (.ref 0), some (.int (nI k0)), some (.int x1), some (.int (nI k2)), some (.int x3), some (.int (nI k4)), some (.ref (43 + 3 * k0)), none]) dX9_copy_22 (by decide) rfl ?_
      refine xi_aload_n dX9_copy_24 rfl ?_
      refine xi_getR dX9_copy_25 fgX9_60 cc0 rfl ?_
      refine xi_iload_n dX9_copy_28 rfl ?_
      refine xe_aald6 (j := (43 + 3 * k2)) k2 dX9_copy_29 cc21 (by decide) rfl (by omega) (if_pos (by omega)) ?_
      refine xi_astore (lv' := [some (.ref 0), some (.int (nI k0)), some (.int x1), some (.int (nI k2)), some (.int x3), some (.int (nI k4)), some (.ref (43 + 3 * k0)), some (.ref (43 + 3 * k2))]) dX9_copy_30 (by decide) rfl ?_
      refine xat 32 rfl ?_
      refine xi_aload dX9_copy_32 rfl ?_
      refine xe_getI (v := nI ((tp k0).1)) dX9_copy_34 fgX9_366 (tpo (isTp_d (d := k0) (by omega))) rfl (hKT k0 (by omega)).1 ?_
      refine xn_if_eq ((tp k0).1) 48 dX9_copy_37 (by decide) rfl (by omega) (fun z => absurd z (by omega)) (fun h37 => ?_)
      refine xi_aload dX9_copy_40 rfl ?_
      refine xe_getI (v := nI ((tp k2).1)) dX9_copy_42 fgX9_366 (tpo (isTp_d (d := k2) (by omega))) rfl (hKT k2 (by omega)).1 ?_
      refine xn_if_ne ((tp k2).1) 55 dX9_copy_45 (by decide) rfl (by omega) (fun h45 => ?_) (fun z => absurd z (by omega))
      refine xi_aload dX9_copy_55 rfl ?_
      refine xi_callV [] [] dX9_copy_57 zX8_isRow mlX9_404 (tpo (isTp_d (d := k0) (by omega))) rfl rfl rfl rfl rfl (Nat.le_of_ble_eq_true rfl) (Nat.le_of_ble_eq_true rfl) ⟨by decide, by decide⟩ ?_
      refine t_isRow (isTp_d (d := k0) (by omega)) (hKT k0 (by omega)).1 (wtq k0).1 ?_
      show WP _ _ 60 _ [.int (xb (decide (1 ≤ (tp k0).1 ∧ (tp k0).1 ≤ 4)))] _ _
      refine xb_if_eq (decide (1 ≤ (tp k0).1 ∧ (tp k0).1 ≤ 4)) 76 dX9_copy_60 (by decide) rfl (fun h60 => ?_) (fun h60 => ?_)
      · exact absurd ⟨by omega, by omega⟩ (of_decide_eq_false h60)
      · skip
        refine xi_aload dX9_copy_63 rfl ?_
        refine xe_getI (v := nI ((tp k0).1)) dX9_copy_65 fgX9_366 (tpo (isTp_d (d := k0) (by omega))) rfl (hKT k0 (by omega)).1 ?_
        refine xi_aload dX9_copy_68 rfl ?_
        refine xe_getI (v := nI ((tp k2).1)) dX9_copy_70 fgX9_366 (tpo (isTp_d (d := k2) (by omega))) rfl (hKT k2 (by omega)).1 ?_
        refine xn_icmp_eq ((tp k0).1) ((tp k2).1) 83 dX9_copy_73 (by decide) rfl rfl (by omega) (by omega) (fun h73 => ?_) (fun z => absurd z (by omega))
        refine xi_aload dX9_copy_83 rfl ?_
        refine xi_iload_n dX9_copy_85 rfl ?_
        refine xi_iload dX9_copy_86 rfl ?_
        refine xi_callV [.int x1, .int (nI k4)] [] dX9_copy_88 zX8_hasPlaces mlX9_412 (tpo (isTp_d (d := k0) (by omega))) rfl rfl rfl rfl rfl (Nat.le_of_ble_eq_true rfl) (Nat.le_of_ble_eq_true rfl) ⟨by decide, by decide⟩ ?_
        refine t_plF (isTp_d (d := k0) (by omega)) (hKT k0 (by omega)).2.1 (by have := wtq k0; omega) hc1 ?_
        show WP _ _ 91 _ [.int (xb false)] _ _
        refine xb_if_eq false 106 dX9_copy_91 (by decide) rfl (fun _ => ?_) (fun z => absurd z (by decide))
        refine xi_aload_n dX9_copy_106 rfl ?_
        refine xi_bipush (v := (-13)) dX9_copy_107 (by decide) ?_
        refine xi_callV [.int (-13)] [] dX9_copy_109 zX9_refuse mlX9_369 cc0 rfl rfl rfl rfl rfl (Nat.le_of_ble_eq_true rfl) (Nat.le_of_ble_eq_true rfl) ⟨by decide, by decide⟩ ?_
        refine c_refuse (x := (-13)) hhr ?_
        show WP _ _ 112 _ [.int (-13)] _ _
        refine xi_iret (v := (-13)) dX9_copy_112 rfl ?_
        simp only [st_copy, ec0, ec2] at h
        rw [if_neg (by omega), if_neg (by omega)] at h
        simp only [ec4, ec1] at h
        exact h _ (RepC_ref hC)
    rcases xrg_cases x3 (lo := 0) (hi := 80) (by omega) (by omega) with ⟨ec3, hc3⟩ | ⟨k3, hk3, hl3, rfl, ec3⟩
    · skip
      refine xi_iload_n dX9_copy_0 rfl ?_
      refine xi_callS [.int (nI k0)] [] dX9_copy_1 zX9_isTape mlX9_363 rfl rfl rfl (Nat.le_of_ble_eq_true rfl) (Nat.le_of_ble_eq_true rfl) ⟨by decide, by decide⟩ ?_
      refine g_isTpT (k := k0) (by omega) ?_
      show WP _ _ 4 _ [.int (xb true)] _ _
      refine xb_if_eq true 14 dX9_copy_4 (by decide) rfl (fun z => absurd z (by decide)) (fun _ => ?_)
      refine xi_iload_n dX9_copy_7 rfl ?_
      refine xi_callS [.int (nI k2)] [] dX9_copy_8 zX9_isTape mlX9_363 rfl rfl rfl (Nat.le_of_ble_eq_true rfl) (Nat.le_of_ble_eq_true rfl) ⟨by decide, by decide⟩ ?_
      refine g_isTpT (k := k2) (by omega) ?_
      show WP _ _ 11 _ [.int (xb true)] _ _
      refine xb_if_ne true 16 dX9_copy_11 (by decide) rfl (fun _ => ?_) (fun z => absurd z (by decide))
      refine xi_aload_n dX9_copy_16 rfl ?_
      refine xi_getR dX9_copy_17 fgX9_60 cc0 rfl ?_
      refine xi_iload_n dX9_copy_20 rfl ?_
      refine xe_aald6 (j := (43 + 3 * k0)) k0 dX9_copy_21 cc21 (by decide) rfl (by omega) (if_pos (by omega)) ?_
      refine xi_astore (lv' := [some (.ref 0), some (.int (nI k0)), some (.int (nI k1)), some (.int (nI k2)), some (.int x3), some (.int (nI k4)), some (.ref (43 + 3 * k0)), none]) dX9_copy_22 (by decide) rfl ?_
      refine xi_aload_n dX9_copy_24 rfl ?_
      refine xi_getR dX9_copy_25 fgX9_60 cc0 rfl ?_
      refine xi_iload_n dX9_copy_28 rfl ?_
      refine xe_aald6 (j := (43 + 3 * k2)) k2 dX9_copy_29 cc21 (by decide) rfl (by omega) (if_pos (by omega)) ?_
      refine xi_astore (lv' := [some (.ref 0), some (.int (nI k0)), some (.int (nI k1)), some (.int (nI k2)), some (.int x3), some (.int (nI k4)), some (.ref (43 + 3 * k0)), some (.ref (43 + 3 * k2))]) dX9_copy_30 (by decide) rfl ?_
      refine xat 32 rfl ?_
      refine xi_aload dX9_copy_32 rfl ?_
      refine xe_getI (v := nI ((tp k0).1)) dX9_copy_34 fgX9_366 (tpo (isTp_d (d := k0) (by omega))) rfl (hKT k0 (by omega)).1 ?_
      refine xn_if_eq ((tp k0).1) 48 dX9_copy_37 (by decide) rfl (by omega) (fun z => absurd z (by omega)) (fun h37 => ?_)
      refine xi_aload dX9_copy_40 rfl ?_
      refine xe_getI (v := nI ((tp k2).1)) dX9_copy_42 fgX9_366 (tpo (isTp_d (d := k2) (by omega))) rfl (hKT k2 (by omega)).1 ?_
      refine xn_if_ne ((tp k2).1) 55 dX9_copy_45 (by decide) rfl (by omega) (fun h45 => ?_) (fun z => absurd z (by omega))
      refine xi_aload dX9_copy_55 rfl ?_
      refine xi_callV [] [] dX9_copy_57 zX8_isRow mlX9_404 (tpo (isTp_d (d := k0) (by omega))) rfl rfl rfl rfl rfl (Nat.le_of_ble_eq_true rfl) (Nat.le_of_ble_eq_true rfl) ⟨by decide, by decide⟩ ?_
      refine t_isRow (isTp_d (d := k0) (by omega)) (hKT k0 (by omega)).1 (wtq k0).1 ?_
      show WP _ _ 60 _ [.int (xb (decide (1 ≤ (tp k0).1 ∧ (tp k0).1 ≤ 4)))] _ _
      refine xb_if_eq (decide (1 ≤ (tp k0).1 ∧ (tp k0).1 ≤ 4)) 76 dX9_copy_60 (by decide) rfl (fun h60 => ?_) (fun h60 => ?_)
      · exact absurd ⟨by omega, by omega⟩ (of_decide_eq_false h60)
      · skip
        refine xi_aload dX9_copy_63 rfl ?_
        refine xe_getI (v := nI ((tp k0).1)) dX9_copy_65 fgX9_366 (tpo (isTp_d (d := k0) (by omega))) rfl (hKT k0 (by omega)).1 ?_
        refine xi_aload dX9_copy_68 rfl ?_
        refine xe_getI (v := nI ((tp k2).1)) dX9_copy_70 fgX9_366 (tpo (isTp_d (d := k2) (by omega))) rfl (hKT k2 (by omega)).1 ?_
        refine xn_icmp_eq ((tp k0).1) ((tp k2).1) 83 dX9_copy_73 (by decide) rfl rfl (by omega) (by omega) (fun h73 => ?_) (fun z => absurd z (by omega))
        refine xi_aload dX9_copy_83 rfl ?_
        refine xi_iload_n dX9_copy_85 rfl ?_
        refine xi_iload dX9_copy_86 rfl ?_
        refine xi_callV [.int (nI k1), .int (nI k4)] [] dX9_copy_88 zX8_hasPlaces mlX9_412 (tpo (isTp_d (d := k0) (by omega))) rfl rfl rfl rfl rfl (Nat.le_of_ble_eq_true rfl) (Nat.le_of_ble_eq_true rfl) ⟨by decide, by decide⟩ ?_
        refine t_plT (isTp_d (d := k0) (by omega)) (hKT k0 (by omega)).2.1 (by have := wtq k0; omega) (i := k1) (n := k4) (by omega) (by omega) ?_
        show WP _ _ 91 _ [.int (xb (decide (k1 + k4 ≤ (tp k0).2.1)))] _ _
        refine xb_if_eq (decide (k1 + k4 ≤ (tp k0).2.1)) 106 dX9_copy_91 (by decide) rfl (fun h91 => ?_) (fun h91 => ?_)
        · skip
          refine xi_aload_n dX9_copy_106 rfl ?_
          refine xi_bipush (v := (-13)) dX9_copy_107 (by decide) ?_
          refine xi_callV [.int (-13)] [] dX9_copy_109 zX9_refuse mlX9_369 cc0 rfl rfl rfl rfl rfl (Nat.le_of_ble_eq_true rfl) (Nat.le_of_ble_eq_true rfl) ⟨by decide, by decide⟩ ?_
          refine c_refuse (x := (-13)) hhr ?_
          show WP _ _ 112 _ [.int (-13)] _ _
          refine xi_iret (v := (-13)) dX9_copy_112 rfl ?_
          simp only [st_copy, ec0, ec2] at h
          rw [if_neg (by omega), if_neg (by omega)] at h
          simp only [ec4, ec1, ec3] at h
          exact h _ (RepC_ref hC)
        · skip
          refine xi_aload dX9_copy_94 rfl ?_
          refine xi_iload dX9_copy_96 rfl ?_
          refine xi_iload dX9_copy_98 rfl ?_
          refine xi_callV [.int x3, .int (nI k4)] [] dX9_copy_100 zX8_hasPlaces mlX9_412 (tpo (isTp_d (d := k2) (by omega))) rfl rfl rfl rfl rfl (Nat.le_of_ble_eq_true rfl) (Nat.le_of_ble_eq_true rfl) ⟨by decide, by decide⟩ ?_
          refine t_plF (isTp_d (d := k2) (by omega)) (hKT k2 (by omega)).2.1 (by have := wtq k2; omega) hc3 ?_
          show WP _ _ 103 _ [.int (xb false)] _ _
          refine xb_if_ne false 113 dX9_copy_103 (by decide) rfl (fun z => absurd z (by decide)) (fun _ => ?_)
          refine xi_aload_n dX9_copy_106 rfl ?_
          refine xi_bipush (v := (-13)) dX9_copy_107 (by decide) ?_
          refine xi_callV [.int (-13)] [] dX9_copy_109 zX9_refuse mlX9_369 cc0 rfl rfl rfl rfl rfl (Nat.le_of_ble_eq_true rfl) (Nat.le_of_ble_eq_true rfl) ⟨by decide, by decide⟩ ?_
          refine c_refuse (x := (-13)) hhr ?_
          show WP _ _ 112 _ [.int (-13)] _ _
          refine xi_iret (v := (-13)) dX9_copy_112 rfl ?_
          simp only [st_copy, ec0, ec2] at h
          rw [if_neg (by omega), if_neg (by omega)] at h
          simp only [ec4, ec1, ec3] at h
          exact h _ (RepC_ref hC)
    refine xi_iload_n dX9_copy_0 rfl ?_
    refine xi_callS [.int (nI k0)] [] dX9_copy_1 zX9_isTape mlX9_363 rfl rfl rfl (Nat.le_of_ble_eq_true rfl) (Nat.le_of_ble_eq_true rfl) ⟨by decide, by decide⟩ ?_
    refine g_isTpT (k := k0) (by omega) ?_
    show WP _ _ 4 _ [.int (xb true)] _ _
    refine xb_if_eq true 14 dX9_copy_4 (by decide) rfl (fun z => absurd z (by decide)) (fun _ => ?_)
    refine xi_iload_n dX9_copy_7 rfl ?_
    refine xi_callS [.int (nI k2)] [] dX9_copy_8 zX9_isTape mlX9_363 rfl rfl rfl (Nat.le_of_ble_eq_true rfl) (Nat.le_of_ble_eq_true rfl) ⟨by decide, by decide⟩ ?_
    refine g_isTpT (k := k2) (by omega) ?_
    show WP _ _ 11 _ [.int (xb true)] _ _
    refine xb_if_ne true 16 dX9_copy_11 (by decide) rfl (fun _ => ?_) (fun z => absurd z (by decide))
    refine xi_aload_n dX9_copy_16 rfl ?_
    refine xi_getR dX9_copy_17 fgX9_60 cc0 rfl ?_
    refine xi_iload_n dX9_copy_20 rfl ?_
    refine xe_aald6 (j := (43 + 3 * k0)) k0 dX9_copy_21 cc21 (by decide) rfl (by omega) (if_pos (by omega)) ?_
    refine xi_astore (lv' := [some (.ref 0), some (.int (nI k0)), some (.int (nI k1)), some (.int (nI k2)), some (.int (nI k3)), some (.int (nI k4)), some (.ref (43 + 3 * k0)), none]) dX9_copy_22 (by decide) rfl ?_
    refine xi_aload_n dX9_copy_24 rfl ?_
    refine xi_getR dX9_copy_25 fgX9_60 cc0 rfl ?_
    refine xi_iload_n dX9_copy_28 rfl ?_
    refine xe_aald6 (j := (43 + 3 * k2)) k2 dX9_copy_29 cc21 (by decide) rfl (by omega) (if_pos (by omega)) ?_
    refine xi_astore (lv' := [some (.ref 0), some (.int (nI k0)), some (.int (nI k1)), some (.int (nI k2)), some (.int (nI k3)), some (.int (nI k4)), some (.ref (43 + 3 * k0)), some (.ref (43 + 3 * k2))]) dX9_copy_30 (by decide) rfl ?_
    refine xat 32 rfl ?_
    refine xi_aload dX9_copy_32 rfl ?_
    refine xe_getI (v := nI ((tp k0).1)) dX9_copy_34 fgX9_366 (tpo (isTp_d (d := k0) (by omega))) rfl (hKT k0 (by omega)).1 ?_
    refine xn_if_eq ((tp k0).1) 48 dX9_copy_37 (by decide) rfl (by omega) (fun z => absurd z (by omega)) (fun h37 => ?_)
    refine xi_aload dX9_copy_40 rfl ?_
    refine xe_getI (v := nI ((tp k2).1)) dX9_copy_42 fgX9_366 (tpo (isTp_d (d := k2) (by omega))) rfl (hKT k2 (by omega)).1 ?_
    refine xn_if_ne ((tp k2).1) 55 dX9_copy_45 (by decide) rfl (by omega) (fun h45 => ?_) (fun z => absurd z (by omega))
    refine xi_aload dX9_copy_55 rfl ?_
    refine xi_callV [] [] dX9_copy_57 zX8_isRow mlX9_404 (tpo (isTp_d (d := k0) (by omega))) rfl rfl rfl rfl rfl (Nat.le_of_ble_eq_true rfl) (Nat.le_of_ble_eq_true rfl) ⟨by decide, by decide⟩ ?_
    refine t_isRow (isTp_d (d := k0) (by omega)) (hKT k0 (by omega)).1 (wtq k0).1 ?_
    show WP _ _ 60 _ [.int (xb (decide (1 ≤ (tp k0).1 ∧ (tp k0).1 ≤ 4)))] _ _
    refine xb_if_eq (decide (1 ≤ (tp k0).1 ∧ (tp k0).1 ≤ 4)) 76 dX9_copy_60 (by decide) rfl (fun h60 => ?_) (fun h60 => ?_)
    · exact absurd ⟨by omega, by omega⟩ (of_decide_eq_false h60)
    · skip
      refine xi_aload dX9_copy_63 rfl ?_
      refine xe_getI (v := nI ((tp k0).1)) dX9_copy_65 fgX9_366 (tpo (isTp_d (d := k0) (by omega))) rfl (hKT k0 (by omega)).1 ?_
      refine xi_aload dX9_copy_68 rfl ?_
      refine xe_getI (v := nI ((tp k2).1)) dX9_copy_70 fgX9_366 (tpo (isTp_d (d := k2) (by omega))) rfl (hKT k2 (by omega)).1 ?_
      refine xn_icmp_eq ((tp k0).1) ((tp k2).1) 83 dX9_copy_73 (by decide) rfl rfl (by omega) (by omega) (fun h73 => ?_) (fun z => absurd z (by omega))
      refine xi_aload dX9_copy_83 rfl ?_
      refine xi_iload_n dX9_copy_85 rfl ?_
      refine xi_iload dX9_copy_86 rfl ?_
      refine xi_callV [.int (nI k1), .int (nI k4)] [] dX9_copy_88 zX8_hasPlaces mlX9_412 (tpo (isTp_d (d := k0) (by omega))) rfl rfl rfl rfl rfl (Nat.le_of_ble_eq_true rfl) (Nat.le_of_ble_eq_true rfl) ⟨by decide, by decide⟩ ?_
      refine t_plT (isTp_d (d := k0) (by omega)) (hKT k0 (by omega)).2.1 (by have := wtq k0; omega) (i := k1) (n := k4) (by omega) (by omega) ?_
      show WP _ _ 91 _ [.int (xb (decide (k1 + k4 ≤ (tp k0).2.1)))] _ _
      refine xb_if_eq (decide (k1 + k4 ≤ (tp k0).2.1)) 106 dX9_copy_91 (by decide) rfl (fun h91 => ?_) (fun h91 => ?_)
      · skip
        refine xi_aload_n dX9_copy_106 rfl ?_
        refine xi_bipush (v := (-13)) dX9_copy_107 (by decide) ?_
        refine xi_callV [.int (-13)] [] dX9_copy_109 zX9_refuse mlX9_369 cc0 rfl rfl rfl rfl rfl (Nat.le_of_ble_eq_true rfl) (Nat.le_of_ble_eq_true rfl) ⟨by decide, by decide⟩ ?_
        refine c_refuse (x := (-13)) hhr ?_
        show WP _ _ 112 _ [.int (-13)] _ _
        refine xi_iret (v := (-13)) dX9_copy_112 rfl ?_
        simp only [st_copy, ec0, ec2] at h
        rw [if_neg (by omega), if_neg (by omega)] at h
        simp only [ec4, ec1, ec3] at h
        rw [if_neg (fun q => by first | (exact absurd q.1 (of_decide_eq_false h91)) | (exact absurd q.2 (of_decide_eq_false h103)))] at h
        exact h _ (RepC_ref hC)
      · skip
        refine xi_aload dX9_copy_94 rfl ?_
        refine xi_iload dX9_copy_96 rfl ?_
        refine xi_iload dX9_copy_98 rfl ?_
        refine xi_callV [.int (nI k3), .int (nI k4)] [] dX9_copy_100 zX8_hasPlaces mlX9_412 (tpo (isTp_d (d := k2) (by omega))) rfl rfl rfl rfl rfl (Nat.le_of_ble_eq_true rfl) (Nat.le_of_ble_eq_true rfl) ⟨by decide, by decide⟩ ?_
        refine t_plT (isTp_d (d := k2) (by omega)) (hKT k2 (by omega)).2.1 (by have := wtq k2; omega) (i := k3) (n := k4) (by omega) (by omega) ?_
        show WP _ _ 103 _ [.int (xb (decide (k3 + k4 ≤ (tp k2).2.1)))] _ _
        refine xb_if_ne (decide (k3 + k4 ≤ (tp k2).2.1)) 113 dX9_copy_103 (by decide) rfl (fun h103 => ?_) (fun h103 => ?_)
        · skip
          refine xi_aload dX9_copy_113 rfl ?_
          refine xi_getR dX9_copy_115 fgX9_389 (tpo (isTp_d (d := k0) (by omega))) rfl ?_
          refine xi_iload_n dX9_copy_118 rfl ?_
          refine xi_aload dX9_copy_119 rfl ?_
          refine xi_getR dX9_copy_121 fgX9_389 (tpo (isTp_d (d := k2) (by omega))) rfl ?_
          refine xi_iload dX9_copy_124 rfl ?_
          refine xi_iload dX9_copy_126 rfl ?_
          refine xi_copyl dX9_copy_128 mlX9_415 xnat (tpa (isTp_d (d := k0) (by omega))) (tpa (isTp_d (d := k2) (by omega))) (nI_pos (by omega)) (nI_pos (by omega)) (nI_pos (by omega)) (by have := of_decide_eq_true h91; have := wtq k0; rw [nI_clamp (by omega), nI_clamp (by omega)]; omega) (by have := of_decide_eq_true h103; have := wtq k2; rw [nI_clamp (by omega), nI_clamp (by omega)]; omega) (by decide) (Nat.le_of_ble_eq_true rfl) ?_
          have p0 := wtq k0
          have p2 := wtq k2
          have p4 := of_decide_eq_true h91
          have p5 := of_decide_eq_true h103
          refine xi_iload dX9_copy_131 rfl ?_
          refine xi_iret (v := nI k4) dX9_copy_133 rfl ?_
          simp only [st_copy, ec0, ec2] at h
          rw [if_neg (by omega), if_neg (by omega)] at h
          simp only [ec4, ec1, ec3] at h
          rw [if_pos ⟨of_decide_eq_true h91, of_decide_eq_true h103⟩] at h
          have q0 := hKT k0 hk0
          have q2 := hKT k2 hk2
          refine h _ (RepC_tp hC hk2 (sC2.xj (by omega)) (sC2.xj (by omega)) ⟨q2.1, q2.2.1, q2.2.2.1, fun n hn => ?_, q2.2.2.2.2⟩)
          rw [xj_s, nI_clamp (by omega), nI_clamp (by omega), nI_clamp (by omega)]
          show _ = va_cpy (tp k0).2.2.2.1 (tp k2).2.2.2.1 k1 k3 k4 n
          unfold va_cpy
          split
          · exact q0.2.2.2.1 _ (by omega)
          · exact q2.2.2.2.1 n hn
        · skip
          refine xi_aload_n dX9_copy_106 rfl ?_
          refine xi_bipush (v := (-13)) dX9_copy_107 (by decide) ?_
          refine xi_callV [.int (-13)] [] dX9_copy_109 zX9_refuse mlX9_369 cc0 rfl rfl rfl rfl rfl (Nat.le_of_ble_eq_true rfl) (Nat.le_of_ble_eq_true rfl) ⟨by decide, by decide⟩ ?_
          refine c_refuse (x := (-13)) hhr ?_
          show WP _ _ 112 _ [.int (-13)] _ _
          refine xi_iret (v := (-13)) dX9_copy_112 rfl ?_
          simp only [st_copy, ec0, ec2] at h
          rw [if_neg (by omega), if_neg (by omega)] at h
          simp only [ec4, ec1, ec3] at h
          rw [if_neg (fun q => by first | (exact absurd q.1 (of_decide_eq_false h91)) | (exact absurd q.2 (of_decide_eq_false h103)))] at h
          exact h _ (RepC_ref hC)

