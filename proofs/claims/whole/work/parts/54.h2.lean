set_option maxHeartbeats 4000000 in
set_option maxRecDepth 100000 in
theorem e_noted {M : xM} {Q : Option Value → xM → Prop} {n : Nat} (hb : n < 2 ^ 31) (hn : M.1 17 3 = nI n) (h : Q (some (.int (nI (min n 64)))) M) : WP shC mX2_noted 0 [some (.ref 17)] [] M Q := by
  refine xi_aload_n dX2_noted_0 rfl ?_
  refine xe_getI (v := nI n) dX2_noted_1 fgX2_28 cc17 rfl hn ?_
  refine xi_bipush (v := 64) dX2_noted_4 (by decide) ?_
  refine xn_icmp_ge n 64 16 dX2_noted_6 (by decide) rfl rfl (by omega) (by omega) (fun h6 => ?_) (fun h6 => ?_)
  · skip
    refine xi_bipush (v := 64) dX2_noted_16 (by decide) ?_
    refine xi_iret (v := 64) dX2_noted_18 rfl ?_
    rw [show min n 64 = 64 by omega] at h
    exact h
  · skip
    refine xi_aload_n dX2_noted_9 rfl ?_
    refine xe_getI (v := nI n) dX2_noted_10 fgX2_28 cc17 rfl hn ?_
    refine xi_goto 18 dX2_noted_13 (by decide) ?_
    refine xi_iret (v := nI n) dX2_noted_18 rfl ?_
    rw [show min n 64 = n by omega] at h
    exact h

set_option maxHeartbeats 4000000 in
set_option maxRecDepth 100000 in
theorem c_remT {G : xG} {S0 : xS} {now late risk : Nat} {A : Nat → Nat} {L : Nat → Bool} {sq : Nat → Nat} {nl : Nat} {rf hr : Int32} {lg : xE2} {w : xw} {tp : Nat → xT} {M : xM} {Q : Option Value → xM → Prop} (hX : wX (G, S0, now, late, risk, A, L, sq, nl, rf, hr, lg, w, tp)) (hC : RepC (G, S0, now, late, risk, A, L, sq, nl, rf, hr, lg, w, tp) M) {k : Nat} (hk : k < now + 1) (h : Q (some (.int (xb (decide (now ≤ k + 8))))) M) : WP shC mX9_remembers 0 [some (.ref 0), some (.int (nI k))] [] M Q := by
  obtain ⟨hW, hw0, wn, wl, wr, wA_, wsq, wnl, wmo, wtk, wwt, wtp, wO0, wB0⟩ := id hX
  obtain ⟨b1, b2, b3, b4, b5, b6, b7, b8, b9, wmap, wlink, wk0, wk1, b10, b11, wword⟩ := id hW
  have nb : nl ≤ 2000 := by rw [wnl]; exact mcnt_le 2000
  obtain ⟨hG, hKF, hKR, hL, hKE, hKS, hKW, hKT, hKM⟩ := id hC
  obtain ⟨hno, hla, hri, hnl, hrf, hhr⟩ := id hKM
  have hSn : CS G (Zf G A S0 now) M (61 + 10 * (now % 16)) := hKR.1 now (by omega) (by omega)
  have hwn : wS G (Zf G A S0 now) := wS_Zf hW hw0 now
  refine xi_iload_n dX9_remembers_0 rfl ?_
  refine xn_if_lt k 27 dX9_remembers_1 (by decide) rfl (by omega) ?_
  refine xi_iload_n dX9_remembers_4 rfl ?_
  refine xi_aload_n dX9_remembers_5 rfl ?_
  refine xe_getI (v := nI now) dX9_remembers_6 fgX9_98 cc0 rfl hno ?_
  refine xn_icmp_gt k now 27 dX9_remembers_9 (by decide) rfl rfl (by omega) (by omega) (fun z => absurd z (by omega)) (fun h9 => ?_)
  refine xi_iload_n dX9_remembers_12 rfl ?_
  refine xi_aload_n dX9_remembers_13 rfl ?_
  refine xe_getI (v := nI now) dX9_remembers_14 fgX9_98 cc0 rfl hno ?_
  refine xi_bipush (v := 8) dX9_remembers_17 (by decide) ?_
  refine xi_isub dX9_remembers_19 ?_
  refine xat 20 rfl ?_
  refine xs_icmp_lt k now 8 27 dX9_remembers_20 (by decide) rfl rfl (by omega) (by omega) (by omega) (fun h20 => ?_) (fun h20 => ?_)
  · skip
    refine xi_iconst (v := 0) dX9_remembers_27 rfl ?_
    refine xi_zret (v := 0) dX9_remembers_28 rfl (by decide) ?_
    rw [show decide (now ≤ k + 8) = false by simp; omega] at h
    exact h
  · skip
    refine xi_iconst (v := 1) dX9_remembers_23 rfl ?_
    refine xi_goto 28 dX9_remembers_24 (by decide) ?_
    refine xi_zret (v := 1) dX9_remembers_28 rfl (by decide) ?_
    rw [show decide (now ≤ k + 8) = true by simp; omega] at h
    exact h

set_option maxHeartbeats 4000000 in
set_option maxRecDepth 100000 in
theorem c_remF {G : xG} {S0 : xS} {now late risk : Nat} {A : Nat → Nat} {L : Nat → Bool} {sq : Nat → Nat} {nl : Nat} {rf hr : Int32} {lg : xE2} {w : xw} {tp : Nat → xT} {M : xM} {Q : Option Value → xM → Prop} (hX : wX (G, S0, now, late, risk, A, L, sq, nl, rf, hr, lg, w, tp)) (hC : RepC (G, S0, now, late, risk, A, L, sq, nl, rf, hr, lg, w, tp) M) {x : Int32} (hc : x < nI 0 ∨ nI now < x) (h : Q (some (.int (xb false))) M) : WP shC mX9_remembers 0 [some (.ref 0), some (.int x)] [] M Q := by
  obtain ⟨hW, hw0, wn, wl, wr, wA_, wsq, wnl, wmo, wtk, wwt, wtp, wO0, wB0⟩ := id hX
  obtain ⟨b1, b2, b3, b4, b5, b6, b7, b8, b9, wmap, wlink, wk0, wk1, b10, b11, wword⟩ := id hW
  have nb : nl ≤ 2000 := by rw [wnl]; exact mcnt_le 2000
  obtain ⟨hG, hKF, hKR, hL, hKE, hKS, hKW, hKT, hKM⟩ := id hC
  obtain ⟨hno, hla, hri, hnl, hrf, hhr⟩ := id hKM
  have hSn : CS G (Zf G A S0 now) M (61 + 10 * (now % 16)) := hKR.1 now (by omega) (by omega)
  have hwn : wS G (Zf G A S0 now) := wS_Zf hW hw0 now
  refine xi_iload_n dX9_remembers_0 rfl ?_
  refine xi_if_lt 27 dX9_remembers_1 (by decide) (fun h1 => ?_) (fun h1 => ?_)
  · skip
    refine xi_iconst (v := 0) dX9_remembers_27 rfl ?_
    refine xi_zret (v := 0) dX9_remembers_28 rfl (by decide) ?_
    exact h
  · skip
    refine xi_iload_n dX9_remembers_4 rfl ?_
    refine xi_aload_n dX9_remembers_5 rfl ?_
    refine xe_getI (v := nI now) dX9_remembers_6 fgX9_98 cc0 rfl hno ?_
    refine xi_icmp_gt 27 dX9_remembers_9 (by decide) (fun h9 => ?_) (fun z => hc.elim (fun q => absurd q h1) (fun q => absurd q z))
    refine xi_iconst (v := 0) dX9_remembers_27 rfl ?_
    refine xi_zret (v := 0) dX9_remembers_28 rfl (by decide) ?_
    exact h

set_option maxHeartbeats 4000000 in
set_option maxRecDepth 100000 in
theorem cl_body {X : xX} {M : xM} {Q : Option Value → xM → Prop} (hX : wX X) (hC : RepC X M) (x0 : Int32) (x1 : Int32) (h : Q (some (.int (a_body X x0 x1))) M) : WP shC mX9_body 0 [some (.ref 0), some (.int x0), some (.int x1), none] [] M Q := by
  obtain ⟨G, S0, now, late, risk, A, L, sq, nl, rf, hr, lg, w, tp⟩ := X
  obtain ⟨hW, hw0, wn, wl, wr, wA_, wsq, wnl, wmo, wtk, wwt, wtp, wO0, wB0⟩ := id hX
  obtain ⟨b1, b2, b3, b4, b5, b6, b7, b8, b9, wmap, wlink, wk0, wk1, b10, b11, wword⟩ := id hW
  have nb : nl ≤ 2000 := by rw [wnl]; exact mcnt_le 2000
  obtain ⟨hG, hKF, hKR, hL, hKE, hKS, hKW, hKT, hKM⟩ := id hC
  obtain ⟨hno, hla, hri, hnl, hrf, hhr⟩ := id hKM
  have hSn : CS G (Zf G A S0 now) M (61 + 10 * (now % 16)) := hKR.1 now (by omega) (by omega)
  have hwn : wS G (Zf G A S0 now) := wS_Zf hW hw0 now
  rcases xix_cases x0 (n := gP G) (by omega) with ⟨ec0, hc0⟩ | ⟨k0, hk0, rfl, ec0⟩
  · skip
    refine xi_aload_n dX9_body_0 rfl ?_
    refine xi_getR dX9_body_1 fgX9_10 cc0 rfl ?_
    refine xi_iload_n dX9_body_4 rfl ?_
    refine xi_callV [.int x0] [] dX9_body_5 zX1_hasPlayer mlX9_200 cc1 rfl rfl rfl rfl rfl (Nat.le_of_ble_eq_true rfl) (Nat.le_of_ble_eq_true rfl) ⟨by decide, by decide⟩ ?_
    refine g_hasPF hW hG hc0 ?_
    show WP _ _ 8 _ [.int (xb false)] _ _
    refine xb_if_ne false 13 dX9_body_8 (by decide) rfl (fun z => absurd z (by decide)) (fun _ => ?_)
    refine xi_iconst (v := (-1)) dX9_body_11 rfl ?_
    refine xi_iret (v := (-1)) dX9_body_12 rfl ?_
    have e : a_body (G, S0, now, late, risk, A, L, sq, nl, rf, hr, lg, w, tp) x0 x1 = -1 := by simp only [a_body, ec0]
    rw [e] at h
    exact h
  rcases xix_cases x1 (n := 7) (by omega) with ⟨ec1, hc1⟩ | ⟨k1, hk1, rfl, ec1⟩
  · skip
    refine xi_aload_n dX9_body_0 rfl ?_
    refine xi_getR dX9_body_1 fgX9_10 cc0 rfl ?_
    refine xi_iload_n dX9_body_4 rfl ?_
    refine xi_callV [.int (nI k0)] [] dX9_body_5 zX1_hasPlayer mlX9_200 cc1 rfl rfl rfl rfl rfl (Nat.le_of_ble_eq_true rfl) (Nat.le_of_ble_eq_true rfl) ⟨by decide, by decide⟩ ?_
    refine g_hasPT hW hG (k := k0) (by omega) ?_
    show WP _ _ 8 _ [.int (xb true)] _ _
    refine xb_if_ne true 13 dX9_body_8 (by decide) rfl (fun _ => ?_) (fun z => absurd z (by decide))
    refine xi_aload_n dX9_body_13 rfl ?_
    refine xi_getR dX9_body_14 fgX9_30 cc0 rfl ?_
    refine xi_aload_n dX9_body_17 rfl ?_
    refine xe_getI (v := nI now) dX9_body_18 fgX9_98 cc0 rfl hno ?_
    refine xi_callV [.int (nI now)] [] dX9_body_21 zX5_stateAt mlX9_215 cc9 rfl rfl rfl rfl rfl (Nat.le_of_ble_eq_true rfl) (Nat.le_of_ble_eq_true rfl) ⟨by decide, by decide⟩ ?_
    refine g_at9 (t := now) (by omega) ?_
    show WP _ _ 24 _ [.ref (61 + 10 * (now % 16))] _ _
    refine xi_astore_n (lv' := [some (.ref 0), some (.int (nI k0)), some (.int x1), some (.ref (61 + 10 * (now % 16)))]) dX9_body_24 (by decide) rfl ?_
    refine xi_iload_n dX9_body_25 rfl ?_
    refine xi_tableOut 117 dX9_body_26 (by decide) (xt_bad (n := 7) (by decide) hc1 (by decide)) ?_
    refine xi_iconst (v := (-1)) dX9_body_117 rfl ?_
    refine xi_iret (v := (-1)) dX9_body_118 rfl ?_
    have e : a_body (G, S0, now, late, risk, A, L, sq, nl, rf, hr, lg, w, tp) (nI k0) x1 = -1 := by simp only [a_body, ec0, ec1]
    rw [e] at h
    exact h
  rcases (show k1 = 0 ∨ k1 = 1 ∨ k1 = 2 ∨ k1 = 3 ∨ k1 = 4 ∨ k1 = 5 ∨ k1 = 6 by omega) with rfl | rfl | rfl | rfl | rfl | rfl | rfl
  · skip
    refine xi_aload_n dX9_body_0 rfl ?_
    refine xi_getR dX9_body_1 fgX9_10 cc0 rfl ?_
    refine xi_iload_n dX9_body_4 rfl ?_
    refine xi_callV [.int (nI k0)] [] dX9_body_5 zX1_hasPlayer mlX9_200 cc1 rfl rfl rfl rfl rfl (Nat.le_of_ble_eq_true rfl) (Nat.le_of_ble_eq_true rfl) ⟨by decide, by decide⟩ ?_
    refine g_hasPT hW hG (k := k0) (by omega) ?_
    show WP _ _ 8 _ [.int (xb true)] _ _
    refine xb_if_ne true 13 dX9_body_8 (by decide) rfl (fun _ => ?_) (fun z => absurd z (by decide))
    refine xi_aload_n dX9_body_13 rfl ?_
    refine xi_getR dX9_body_14 fgX9_30 cc0 rfl ?_
    refine xi_aload_n dX9_body_17 rfl ?_
    refine xe_getI (v := nI now) dX9_body_18 fgX9_98 cc0 rfl hno ?_
    refine xi_callV [.int (nI now)] [] dX9_body_21 zX5_stateAt mlX9_215 cc9 rfl rfl rfl rfl rfl (Nat.le_of_ble_eq_true rfl) (Nat.le_of_ble_eq_true rfl) ⟨by decide, by decide⟩ ?_
    refine g_at9 (t := now) (by omega) ?_
    show WP _ _ 24 _ [.ref (61 + 10 * (now % 16))] _ _
    refine xi_astore_n (lv' := [some (.ref 0), some (.int (nI k0)), some (.int (nI 0)), some (.ref (61 + 10 * (now % 16)))]) dX9_body_24 (by decide) rfl ?_
    refine xi_iload_n dX9_body_25 rfl ?_
    refine xi_tableIn 68 0 dX9_body_26 (by decide) (by decide) rfl (by decide) ?_
    refine xi_aload_n dX9_body_68 rfl ?_
    refine xi_getR dX9_body_69 fgX9_275 (so (isSt_ring now)) rfl ?_
    refine xi_iload_n dX9_body_72 rfl ?_
    refine xe_iald (v := sC (Zf G A S0 now) k0) k0 dX9_body_73 (sa1 (isSt_ring now)) (by decide) rfl (by omega) (csC hSn (by omega)) ?_
    refine xi_iret (v := sC (Zf G A S0 now) k0) dX9_body_74 rfl ?_
    simp only [a_body, ec0, ec1] at h
    exact h
  · skip
    refine xi_aload_n dX9_body_0 rfl ?_
    refine xi_getR dX9_body_1 fgX9_10 cc0 rfl ?_
    refine xi_iload_n dX9_body_4 rfl ?_
    refine xi_callV [.int (nI k0)] [] dX9_body_5 zX1_hasPlayer mlX9_200 cc1 rfl rfl rfl rfl rfl (Nat.le_of_ble_eq_true rfl) (Nat.le_of_ble_eq_true rfl) ⟨by decide, by decide⟩ ?_
    refine g_hasPT hW hG (k := k0) (by omega) ?_
    show WP _ _ 8 _ [.int (xb true)] _ _
    refine xb_if_ne true 13 dX9_body_8 (by decide) rfl (fun _ => ?_) (fun z => absurd z (by decide))
    refine xi_aload_n dX9_body_13 rfl ?_
    refine xi_getR dX9_body_14 fgX9_30 cc0 rfl ?_
    refine xi_aload_n dX9_body_17 rfl ?_
    refine xe_getI (v := nI now) dX9_body_18 fgX9_98 cc0 rfl hno ?_
    refine xi_callV [.int (nI now)] [] dX9_body_21 zX5_stateAt mlX9_215 cc9 rfl rfl rfl rfl rfl (Nat.le_of_ble_eq_true rfl) (Nat.le_of_ble_eq_true rfl) ⟨by decide, by decide⟩ ?_
    refine g_at9 (t := now) (by omega) ?_
    show WP _ _ 24 _ [.ref (61 + 10 * (now % 16))] _ _
    refine xi_astore_n (lv' := [some (.ref 0), some (.int (nI k0)), some (.int (nI 1)), some (.ref (61 + 10 * (now % 16)))]) dX9_body_24 (by decide) rfl ?_
    refine xi_iload_n dX9_body_25 rfl ?_
    refine xi_tableIn 75 1 dX9_body_26 (by decide) (by decide) rfl (by decide) ?_
    refine xi_aload_n dX9_body_75 rfl ?_
    refine xi_getR dX9_body_76 fgX9_219 (so (isSt_ring now)) rfl ?_
    refine xi_iload_n dX9_body_79 rfl ?_
    have q1 := (hwn).2.1 k0 (by omega)
    refine xe_iald (v := nI (sL (Zf G A S0 now) k0)) k0 dX9_body_80 (sa2 (isSt_ring now)) (by decide) rfl (by omega) (csL hSn (by omega)) ?_
    refine xi_iret (v := nI (sL (Zf G A S0 now) k0)) dX9_body_81 rfl ?_
    simp only [a_body, ec0, ec1] at h
    exact h
  · skip
    refine xi_aload_n dX9_body_0 rfl ?_
    refine xi_getR dX9_body_1 fgX9_10 cc0 rfl ?_
    refine xi_iload_n dX9_body_4 rfl ?_
    refine xi_callV [.int (nI k0)] [] dX9_body_5 zX1_hasPlayer mlX9_200 cc1 rfl rfl rfl rfl rfl (Nat.le_of_ble_eq_true rfl) (Nat.le_of_ble_eq_true rfl) ⟨by decide, by decide⟩ ?_
    refine g_hasPT hW hG (k := k0) (by omega) ?_
    show WP _ _ 8 _ [.int (xb true)] _ _
    refine xb_if_ne true 13 dX9_body_8 (by decide) rfl (fun _ => ?_) (fun z => absurd z (by decide))
    refine xi_aload_n dX9_body_13 rfl ?_
    refine xi_getR dX9_body_14 fgX9_30 cc0 rfl ?_
    refine xi_aload_n dX9_body_17 rfl ?_
    refine xe_getI (v := nI now) dX9_body_18 fgX9_98 cc0 rfl hno ?_
    refine xi_callV [.int (nI now)] [] dX9_body_21 zX5_stateAt mlX9_215 cc9 rfl rfl rfl rfl rfl (Nat.le_of_ble_eq_true rfl) (Nat.le_of_ble_eq_true rfl) ⟨by decide, by decide⟩ ?_
    refine g_at9 (t := now) (by omega) ?_
    show WP _ _ 24 _ [.ref (61 + 10 * (now % 16))] _ _
    refine xi_astore_n (lv' := [some (.ref 0), some (.int (nI k0)), some (.int (nI 2)), some (.ref (61 + 10 * (now % 16)))]) dX9_body_24 (by decide) rfl ?_
    refine xi_iload_n dX9_body_25 rfl ?_
    refine xi_tableIn 82 2 dX9_body_26 (by decide) (by decide) rfl (by decide) ?_
    refine xi_aload_n dX9_body_82 rfl ?_
    refine xi_getR dX9_body_83 fgX9_278 (so (isSt_ring now)) rfl ?_
    refine xi_iload_n dX9_body_86 rfl ?_
    refine xe_iald (v := sF (Zf G A S0 now) k0) k0 dX9_body_87 (sa4 (isSt_ring now)) (by decide) rfl (by omega) (csF hSn (by omega)) ?_
    refine xi_iret (v := sF (Zf G A S0 now) k0) dX9_body_88 rfl ?_
    simp only [a_body, ec0, ec1] at h
    exact h
  · skip
    refine xi_aload_n dX9_body_0 rfl ?_
    refine xi_getR dX9_body_1 fgX9_10 cc0 rfl ?_
    refine xi_iload_n dX9_body_4 rfl ?_
    refine xi_callV [.int (nI k0)] [] dX9_body_5 zX1_hasPlayer mlX9_200 cc1 rfl rfl rfl rfl rfl (Nat.le_of_ble_eq_true rfl) (Nat.le_of_ble_eq_true rfl) ⟨by decide, by decide⟩ ?_
    refine g_hasPT hW hG (k := k0) (by omega) ?_
    show WP _ _ 8 _ [.int (xb true)] _ _
    refine xb_if_ne true 13 dX9_body_8 (by decide) rfl (fun _ => ?_) (fun z => absurd z (by decide))
    refine xi_aload_n dX9_body_13 rfl ?_
    refine xi_getR dX9_body_14 fgX9_30 cc0 rfl ?_
    refine xi_aload_n dX9_body_17 rfl ?_
    refine xe_getI (v := nI now) dX9_body_18 fgX9_98 cc0 rfl hno ?_
    refine xi_callV [.int (nI now)] [] dX9_body_21 zX5_stateAt mlX9_215 cc9 rfl rfl rfl rfl rfl (Nat.le_of_ble_eq_true rfl) (Nat.le_of_ble_eq_true rfl) ⟨by decide, by decide⟩ ?_
    refine g_at9 (t := now) (by omega) ?_
    show WP _ _ 24 _ [.ref (61 + 10 * (now % 16))] _ _
    refine xi_astore_n (lv' := [some (.ref 0), some (.int (nI k0)), some (.int (nI 3)), some (.ref (61 + 10 * (now % 16)))]) dX9_body_24 (by decide) rfl ?_
    refine xi_iload_n dX9_body_25 rfl ?_
    refine xi_tableIn 89 3 dX9_body_26 (by decide) (by decide) rfl (by decide) ?_
    refine xi_aload_n dX9_body_89 rfl ?_
    refine xi_getR dX9_body_90 fgX9_281 (so (isSt_ring now)) rfl ?_
    refine xi_iload_n dX9_body_93 rfl ?_
    have q1 := (hwn).2.2.2.1 k0 (by omega)
    refine xe_iald (v := nI (sR (Zf G A S0 now) k0)) k0 dX9_body_94 (sa5 (isSt_ring now)) (by decide) rfl (by omega) (csR hSn (by omega)) ?_
    refine xi_iret (v := nI (sR (Zf G A S0 now) k0)) dX9_body_95 rfl ?_
    simp only [a_body, ec0, ec1] at h
    exact h
  · skip
    refine xi_aload_n dX9_body_0 rfl ?_
    refine xi_getR dX9_body_1 fgX9_10 cc0 rfl ?_
    refine xi_iload_n dX9_body_4 rfl ?_
    refine xi_callV [.int (nI k0)] [] dX9_body_5 zX1_hasPlayer mlX9_200 cc1 rfl rfl rfl rfl rfl (Nat.le_of_ble_eq_true rfl) (Nat.le_of_ble_eq_true rfl) ⟨by decide, by decide⟩ ?_
    refine g_hasPT hW hG (k := k0) (by omega) ?_
    show WP _ _ 8 _ [.int (xb true)] _ _
    refine xb_if_ne true 13 dX9_body_8 (by decide) rfl (fun _ => ?_) (fun z => absurd z (by decide))
    refine xi_aload_n dX9_body_13 rfl ?_
    refine xi_getR dX9_body_14 fgX9_30 cc0 rfl ?_
    refine xi_aload_n dX9_body_17 rfl ?_
    refine xe_getI (v := nI now) dX9_body_18 fgX9_98 cc0 rfl hno ?_
    refine xi_callV [.int (nI now)] [] dX9_body_21 zX5_stateAt mlX9_215 cc9 rfl rfl rfl rfl rfl (Nat.le_of_ble_eq_true rfl) (Nat.le_of_ble_eq_true rfl) ⟨by decide, by decide⟩ ?_
    refine g_at9 (t := now) (by omega) ?_
    show WP _ _ 24 _ [.ref (61 + 10 * (now % 16))] _ _
    refine xi_astore_n (lv' := [some (.ref 0), some (.int (nI k0)), some (.int (nI 4)), some (.ref (61 + 10 * (now % 16)))]) dX9_body_24 (by decide) rfl ?_
    refine xi_iload_n dX9_body_25 rfl ?_
    refine xi_tableIn 96 4 dX9_body_26 (by decide) (by decide) rfl (by decide) ?_
    refine xi_aload_n dX9_body_96 rfl ?_
    refine xi_getR dX9_body_97 fgX9_284 (so (isSt_ring now)) rfl ?_
    refine xi_iload_n dX9_body_100 rfl ?_
    obtain ⟨o1, ho1⟩ : ∃ o, o = sH (Zf G A S0 now) k0 := ⟨_, rfl⟩
    refine xe_iald (v := xo o1) k0 dX9_body_101 (sa6 (isSt_ring now)) (by decide) rfl (by omega) (by rw [ho1]; exact csH hSn (by omega)) ?_
    refine xi_iret (v := xo o1) dX9_body_102 rfl ?_
    simp only [a_body, ec0, ec1] at h
    rw [ho1]
    exact h
  · skip
    refine xi_aload_n dX9_body_0 rfl ?_
    refine xi_getR dX9_body_1 fgX9_10 cc0 rfl ?_
    refine xi_iload_n dX9_body_4 rfl ?_
    refine xi_callV [.int (nI k0)] [] dX9_body_5 zX1_hasPlayer mlX9_200 cc1 rfl rfl rfl rfl rfl (Nat.le_of_ble_eq_true rfl) (Nat.le_of_ble_eq_true rfl) ⟨by decide, by decide⟩ ?_
    refine g_hasPT hW hG (k := k0) (by omega) ?_
    show WP _ _ 8 _ [.int (xb true)] _ _
    refine xb_if_ne true 13 dX9_body_8 (by decide) rfl (fun _ => ?_) (fun z => absurd z (by decide))
    refine xi_aload_n dX9_body_13 rfl ?_
    refine xi_getR dX9_body_14 fgX9_30 cc0 rfl ?_
    refine xi_aload_n dX9_body_17 rfl ?_
    refine xe_getI (v := nI now) dX9_body_18 fgX9_98 cc0 rfl hno ?_
    refine xi_callV [.int (nI now)] [] dX9_body_21 zX5_stateAt mlX9_215 cc9 rfl rfl rfl rfl rfl (Nat.le_of_ble_eq_true rfl) (Nat.le_of_ble_eq_true rfl) ⟨by decide, by decide⟩ ?_
    refine g_at9 (t := now) (by omega) ?_
    show WP _ _ 24 _ [.ref (61 + 10 * (now % 16))] _ _
    refine xi_astore_n (lv' := [some (.ref 0), some (.int (nI k0)), some (.int (nI 5)), some (.ref (61 + 10 * (now % 16)))]) dX9_body_24 (by decide) rfl ?_
    refine xi_iload_n dX9_body_25 rfl ?_
    refine xi_tableIn 103 5 dX9_body_26 (by decide) (by decide) rfl (by decide) ?_
    refine xi_aload_n dX9_body_103 rfl ?_
    refine xi_getR dX9_body_104 fgX9_287 (so (isSt_ring now)) rfl ?_
    refine xi_iload_n dX9_body_107 rfl ?_
    refine xe_iald (v := sP (Zf G A S0 now) k0) k0 dX9_body_108 (sa7 (isSt_ring now)) (by decide) rfl (by omega) (csP hSn (by omega)) ?_
    refine xi_iret (v := sP (Zf G A S0 now) k0) dX9_body_109 rfl ?_
    simp only [a_body, ec0, ec1] at h
    exact h
  · skip
    refine xi_aload_n dX9_body_0 rfl ?_
    refine xi_getR dX9_body_1 fgX9_10 cc0 rfl ?_
    refine xi_iload_n dX9_body_4 rfl ?_
    refine xi_callV [.int (nI k0)] [] dX9_body_5 zX1_hasPlayer mlX9_200 cc1 rfl rfl rfl rfl rfl (Nat.le_of_ble_eq_true rfl) (Nat.le_of_ble_eq_true rfl) ⟨by decide, by decide⟩ ?_
    refine g_hasPT hW hG (k := k0) (by omega) ?_
    show WP _ _ 8 _ [.int (xb true)] _ _
    refine xb_if_ne true 13 dX9_body_8 (by decide) rfl (fun _ => ?_) (fun z => absurd z (by decide))
    refine xi_aload_n dX9_body_13 rfl ?_
    refine xi_getR dX9_body_14 fgX9_30 cc0 rfl ?_
    refine xi_aload_n dX9_body_17 rfl ?_
    refine xe_getI (v := nI now) dX9_body_18 fgX9_98 cc0 rfl hno ?_
    refine xi_callV [.int (nI now)] [] dX9_body_21 zX5_stateAt mlX9_215 cc9 rfl rfl rfl rfl rfl (Nat.le_of_ble_eq_true rfl) (Nat.le_of_ble_eq_true rfl) ⟨by decide, by decide⟩ ?_
    refine g_at9 (t := now) (by omega) ?_
    show WP _ _ 24 _ [.ref (61 + 10 * (now % 16))] _ _
    refine xi_astore_n (lv' := [some (.ref 0), some (.int (nI k0)), some (.int (nI 6)), some (.ref (61 + 10 * (now % 16)))]) dX9_body_24 (by decide) rfl ?_
    refine xi_iload_n dX9_body_25 rfl ?_
    refine xi_tableIn 110 6 dX9_body_26 (by decide) (by decide) rfl (by decide) ?_
    refine xi_aload_n dX9_body_110 rfl ?_
    refine xi_getR dX9_body_111 fgX9_290 (so (isSt_ring now)) rfl ?_
    refine xi_iload_n dX9_body_114 rfl ?_
    refine xe_iald (v := sK (Zf G A S0 now) k0) k0 dX9_body_115 (sa8 (isSt_ring now)) (by decide) rfl (by omega) (csK hSn (by omega)) ?_
    refine xi_iret (v := sK (Zf G A S0 now) k0) dX9_body_116 rfl ?_
    simp only [a_body, ec0, ec1] at h
    exact h

set_option maxHeartbeats 4000000 in
set_option maxRecDepth 100000 in
theorem cl_thing {X : xX} {M : xM} {Q : Option Value → xM → Prop} (hX : wX X) (hC : RepC X M) (x0 : Int32) (x1 : Int32) (h : Q (some (.int (a_thing X x0 x1))) M) : WP shC mX9_thing 0 [some (.ref 0), some (.int x0), some (.int x1), none] [] M Q := by
  obtain ⟨G, S0, now, late, risk, A, L, sq, nl, rf, hr, lg, w, tp⟩ := X
  obtain ⟨hW, hw0, wn, wl, wr, wA_, wsq, wnl, wmo, wtk, wwt, wtp, wO0, wB0⟩ := id hX
  obtain ⟨b1, b2, b3, b4, b5, b6, b7, b8, b9, wmap, wlink, wk0, wk1, b10, b11, wword⟩ := id hW
  have nb : nl ≤ 2000 := by rw [wnl]; exact mcnt_le 2000
  obtain ⟨hG, hKF, hKR, hL, hKE, hKS, hKW, hKT, hKM⟩ := id hC
  obtain ⟨hno, hla, hri, hnl, hrf, hhr⟩ := id hKM
  have hSn : CS G (Zf G A S0 now) M (61 + 10 * (now % 16)) := hKR.1 now (by omega) (by omega)
  have hwn : wS G (Zf G A S0 now) := wS_Zf hW hw0 now
  rcases xix_cases x0 (n := gT G) (by omega) with ⟨ec0, hc0⟩ | ⟨k0, hk0, rfl, ec0⟩
  · skip
    refine xi_iload_n dX9_thing_0 rfl ?_
    refine xi_if_lt 15 dX9_thing_1 (by decide) (fun h1 => ?_) (fun h1 => ?_)
    · skip
      refine xi_iconst (v := (-1)) dX9_thing_15 rfl ?_
      refine xi_iret (v := (-1)) dX9_thing_16 rfl ?_
      have e : a_thing (G, S0, now, late, risk, A, L, sq, nl, rf, hr, lg, w, tp) x0 x1 = -1 := by simp only [a_thing, ec0]
      rw [e] at h
      exact h
    · skip
      refine xi_iload_n dX9_thing_4 rfl ?_
      refine xi_aload_n dX9_thing_5 rfl ?_
      refine xi_getR dX9_thing_6 fgX9_10 cc0 rfl ?_
      refine xe_getI (v := nI (gT G)) dX9_thing_9 fgX9_150 cc1 rfl (cg_T hG) ?_
      refine xi_icmp_lt 17 dX9_thing_12 (by decide) (fun z => hc0.elim (fun q => absurd q h1) (fun q => absurd z (Int32.not_lt.mpr q))) (fun h12 => ?_)
      refine xi_iconst (v := (-1)) dX9_thing_15 rfl ?_
      refine xi_iret (v := (-1)) dX9_thing_16 rfl ?_
      have e : a_thing (G, S0, now, late, risk, A, L, sq, nl, rf, hr, lg, w, tp) x0 x1 = -1 := by simp only [a_thing, ec0]
      rw [e] at h
      exact h
  rcases xix_cases x1 (n := 4) (by omega) with ⟨ec1, hc1⟩ | ⟨k1, hk1, rfl, ec1⟩
  · skip
    refine xi_iload_n dX9_thing_0 rfl ?_
    refine xn_if_lt k0 15 dX9_thing_1 (by decide) rfl (by omega) ?_
    refine xi_iload_n dX9_thing_4 rfl ?_
    refine xi_aload_n dX9_thing_5 rfl ?_
    refine xi_getR dX9_thing_6 fgX9_10 cc0 rfl ?_
    refine xe_getI (v := nI (gT G)) dX9_thing_9 fgX9_150 cc1 rfl (cg_T hG) ?_
    refine xn_icmp_lt k0 (gT G) 17 dX9_thing_12 (by decide) rfl rfl (by omega) (by omega) (fun h12 => ?_) (fun z => absurd z (by omega))
    refine xi_aload_n dX9_thing_17 rfl ?_
    refine xi_getR dX9_thing_18 fgX9_30 cc0 rfl ?_
    refine xi_aload_n dX9_thing_21 rfl ?_
    refine xe_getI (v := nI now) dX9_thing_22 fgX9_98 cc0 rfl hno ?_
    refine xat 25 rfl ?_
    refine xi_callV [.int (nI now)] [] dX9_thing_25 zX5_stateAt mlX9_215 cc9 rfl rfl rfl rfl rfl (Nat.le_of_ble_eq_true rfl) (Nat.le_of_ble_eq_true rfl) ⟨by decide, by decide⟩ ?_
    refine g_at9 (t := now) (by omega) ?_
    show WP _ _ 28 _ [.ref (61 + 10 * (now % 16))] _ _
    refine xi_astore_n (lv' := [some (.ref 0), some (.int (nI k0)), some (.int x1), some (.ref (61 + 10 * (now % 16)))]) dX9_thing_28 (by decide) rfl ?_
    refine xi_iload_n dX9_thing_29 rfl ?_
    refine xi_tableOut 91 dX9_thing_30 (by decide) (xt_bad (n := 4) (by decide) hc1 (by decide)) ?_
    refine xi_iconst (v := (-1)) dX9_thing_91 rfl ?_
    refine xi_iret (v := (-1)) dX9_thing_92 rfl ?_
    have e : a_thing (G, S0, now, late, risk, A, L, sq, nl, rf, hr, lg, w, tp) (nI k0) x1 = -1 := by simp only [a_thing, ec0, ec1]
    rw [e] at h
    exact h
  rcases (show k1 = 0 ∨ k1 = 1 ∨ k1 = 2 ∨ k1 = 3 by omega) with rfl | rfl | rfl | rfl
  · skip
    refine xi_iload_n dX9_thing_0 rfl ?_
    refine xn_if_lt k0 15 dX9_thing_1 (by decide) rfl (by omega) ?_
    refine xi_iload_n dX9_thing_4 rfl ?_
    refine xi_aload_n dX9_thing_5 rfl ?_
    refine xi_getR dX9_thing_6 fgX9_10 cc0 rfl ?_
    refine xe_getI (v := nI (gT G)) dX9_thing_9 fgX9_150 cc1 rfl (cg_T hG) ?_
    refine xn_icmp_lt k0 (gT G) 17 dX9_thing_12 (by decide) rfl rfl (by omega) (by omega) (fun h12 => ?_) (fun z => absurd z (by omega))
    refine xi_aload_n dX9_thing_17 rfl ?_
    refine xi_getR dX9_thing_18 fgX9_30 cc0 rfl ?_
    refine xi_aload_n dX9_thing_21 rfl ?_
    refine xe_getI (v := nI now) dX9_thing_22 fgX9_98 cc0 rfl hno ?_
    refine xat 25 rfl ?_
    refine xi_callV [.int (nI now)] [] dX9_thing_25 zX5_stateAt mlX9_215 cc9 rfl rfl rfl rfl rfl (Nat.le_of_ble_eq_true rfl) (Nat.le_of_ble_eq_true rfl) ⟨by decide, by decide⟩ ?_
    refine g_at9 (t := now) (by omega) ?_
    show WP _ _ 28 _ [.ref (61 + 10 * (now % 16))] _ _
    refine xi_astore_n (lv' := [some (.ref 0), some (.int (nI k0)), some (.int (nI 0)), some (.ref (61 + 10 * (now % 16)))]) dX9_thing_28 (by decide) rfl ?_
    refine xi_iload_n dX9_thing_29 rfl ?_
    refine xi_tableIn 60 0 dX9_thing_30 (by decide) (by decide) rfl (by decide) ?_
    refine xi_aload_n dX9_thing_60 rfl ?_
    refine xi_getR dX9_thing_61 fgX9_10 cc0 rfl ?_
    refine xi_getR dX9_thing_64 fgX9_293 cc1 rfl ?_
    refine xi_iload_n dX9_thing_67 rfl ?_
    have q1 : gkind G k0 ≤ 7 := hW.kind (by omega)
    refine xe_iald (v := nI (gkind G k0)) k0 dX9_thing_68 cc8 (by decide) rfl (by omega) (cg_kind hG (by omega)) ?_
    refine xi_iret (v := nI (gkind G k0)) dX9_thing_69 rfl ?_
    simp only [a_thing, ec0, ec1, h12] at h
    exact h
  · skip
    refine xi_iload_n dX9_thing_0 rfl ?_
    refine xn_if_lt k0 15 dX9_thing_1 (by decide) rfl (by omega) ?_
    refine xi_iload_n dX9_thing_4 rfl ?_
    refine xi_aload_n dX9_thing_5 rfl ?_
    refine xi_getR dX9_thing_6 fgX9_10 cc0 rfl ?_
    refine xe_getI (v := nI (gT G)) dX9_thing_9 fgX9_150 cc1 rfl (cg_T hG) ?_
    refine xn_icmp_lt k0 (gT G) 17 dX9_thing_12 (by decide) rfl rfl (by omega) (by omega) (fun h12 => ?_) (fun z => absurd z (by omega))
    refine xi_aload_n dX9_thing_17 rfl ?_
    refine xi_getR dX9_thing_18 fgX9_30 cc0 rfl ?_
    refine xi_aload_n dX9_thing_21 rfl ?_
    refine xe_getI (v := nI now) dX9_thing_22 fgX9_98 cc0 rfl hno ?_
    refine xat 25 rfl ?_
    refine xi_callV [.int (nI now)] [] dX9_thing_25 zX5_stateAt mlX9_215 cc9 rfl rfl rfl rfl rfl (Nat.le_of_ble_eq_true rfl) (Nat.le_of_ble_eq_true rfl) ⟨by decide, by decide⟩ ?_
    refine g_at9 (t := now) (by omega) ?_
    show WP _ _ 28 _ [.ref (61 + 10 * (now % 16))] _ _
    refine xi_astore_n (lv' := [some (.ref 0), some (.int (nI k0)), some (.int (nI 1)), some (.ref (61 + 10 * (now % 16)))]) dX9_thing_28 (by decide) rfl ?_
    refine xi_iload_n dX9_thing_29 rfl ?_
    refine xi_tableIn 70 1 dX9_thing_30 (by decide) (by decide) rfl (by decide) ?_
    refine xi_aload_n dX9_thing_70 rfl ?_
    refine xi_getR dX9_thing_71 fgX9_275 (so (isSt_ring now)) rfl ?_
    refine xi_iload_n dX9_thing_74 rfl ?_
    refine xe_iald (v := sC (Zf G A S0 now) k0) k0 dX9_thing_75 (sa1 (isSt_ring now)) (by decide) rfl (by omega) (csC hSn (by omega)) ?_
    refine xi_iret (v := sC (Zf G A S0 now) k0) dX9_thing_76 rfl ?_
    simp only [a_thing, ec0, ec1, h12] at h
    exact h
  · skip
    refine xi_iload_n dX9_thing_0 rfl ?_
    refine xn_if_lt k0 15 dX9_thing_1 (by decide) rfl (by omega) ?_
    refine xi_iload_n dX9_thing_4 rfl ?_
    refine xi_aload_n dX9_thing_5 rfl ?_
    refine xi_getR dX9_thing_6 fgX9_10 cc0 rfl ?_
    refine xe_getI (v := nI (gT G)) dX9_thing_9 fgX9_150 cc1 rfl (cg_T hG) ?_
    refine xn_icmp_lt k0 (gT G) 17 dX9_thing_12 (by decide) rfl rfl (by omega) (by omega) (fun h12 => ?_) (fun z => absurd z (by omega))
    refine xi_aload_n dX9_thing_17 rfl ?_
    refine xi_getR dX9_thing_18 fgX9_30 cc0 rfl ?_
    refine xi_aload_n dX9_thing_21 rfl ?_
    refine xe_getI (v := nI now) dX9_thing_22 fgX9_98 cc0 rfl hno ?_
    refine xat 25 rfl ?_
    refine xi_callV [.int (nI now)] [] dX9_thing_25 zX5_stateAt mlX9_215 cc9 rfl rfl rfl rfl rfl (Nat.le_of_ble_eq_true rfl) (Nat.le_of_ble_eq_true rfl) ⟨by decide, by decide⟩ ?_
    refine g_at9 (t := now) (by omega) ?_
    show WP _ _ 28 _ [.ref (61 + 10 * (now % 16))] _ _
    refine xi_astore_n (lv' := [some (.ref 0), some (.int (nI k0)), some (.int (nI 2)), some (.ref (61 + 10 * (now % 16)))]) dX9_thing_28 (by decide) rfl ?_
    refine xi_iload_n dX9_thing_29 rfl ?_
    refine xi_tableIn 77 2 dX9_thing_30 (by decide) (by decide) rfl (by decide) ?_
    refine xi_aload_n dX9_thing_77 rfl ?_
    refine xi_getR dX9_thing_78 fgX9_219 (so (isSt_ring now)) rfl ?_
    refine xi_iload_n dX9_thing_81 rfl ?_
    have q1 := (hwn).2.1 k0 (by omega)
    refine xe_iald (v := nI (sL (Zf G A S0 now) k0)) k0 dX9_thing_82 (sa2 (isSt_ring now)) (by decide) rfl (by omega) (csL hSn (by omega)) ?_
    refine xi_iret (v := nI (sL (Zf G A S0 now) k0)) dX9_thing_83 rfl ?_
    simp only [a_thing, ec0, ec1, h12] at h
    exact h
  · skip
    refine xi_iload_n dX9_thing_0 rfl ?_
    refine xn_if_lt k0 15 dX9_thing_1 (by decide) rfl (by omega) ?_
    refine xi_iload_n dX9_thing_4 rfl ?_
    refine xi_aload_n dX9_thing_5 rfl ?_
    refine xi_getR dX9_thing_6 fgX9_10 cc0 rfl ?_
    refine xe_getI (v := nI (gT G)) dX9_thing_9 fgX9_150 cc1 rfl (cg_T hG) ?_
    refine xn_icmp_lt k0 (gT G) 17 dX9_thing_12 (by decide) rfl rfl (by omega) (by omega) (fun h12 => ?_) (fun z => absurd z (by omega))
    refine xi_aload_n dX9_thing_17 rfl ?_
    refine xi_getR dX9_thing_18 fgX9_30 cc0 rfl ?_
    refine xi_aload_n dX9_thing_21 rfl ?_
    refine xe_getI (v := nI now) dX9_thing_22 fgX9_98 cc0 rfl hno ?_
    refine xat 25 rfl ?_
    refine xi_callV [.int (nI now)] [] dX9_thing_25 zX5_stateAt mlX9_215 cc9 rfl rfl rfl rfl rfl (Nat.le_of_ble_eq_true rfl) (Nat.le_of_ble_eq_true rfl) ⟨by decide, by decide⟩ ?_
    refine g_at9 (t := now) (by omega) ?_
    show WP _ _ 28 _ [.ref (61 + 10 * (now % 16))] _ _
    refine xi_astore_n (lv' := [some (.ref 0), some (.int (nI k0)), some (.int (nI 3)), some (.ref (61 + 10 * (now % 16)))]) dX9_thing_28 (by decide) rfl ?_
    refine xi_iload_n dX9_thing_29 rfl ?_
    refine xi_tableIn 84 3 dX9_thing_30 (by decide) (by decide) rfl (by decide) ?_
    refine xi_aload_n dX9_thing_84 rfl ?_
    refine xi_getR dX9_thing_85 fgX9_296 (so (isSt_ring now)) rfl ?_
    refine xi_iload_n dX9_thing_88 rfl ?_
    obtain ⟨o1, ho1⟩ : ∃ o, o = sB (Zf G A S0 now) k0 := ⟨_, rfl⟩
    refine xe_iald (v := xo o1) k0 dX9_thing_89 (sa3 (isSt_ring now)) (by decide) rfl (by omega) (by rw [ho1]; exact csB hSn (by omega)) ?_
    refine xi_iret (v := xo o1) dX9_thing_90 rfl ?_
    simp only [a_thing, ec0, ec1, h12] at h
    rw [ho1]
    exact h

set_option maxHeartbeats 4000000 in
set_option maxRecDepth 100000 in
theorem cl_open {X : xX} {M : xM} {Q : Option Value → xM → Prop} (hX : wX X) (hC : RepC X M) (x0 : Int32) (h : Q (some (.int (a_open X x0))) M) : WP shC mX9_open 0 [some (.ref 0), some (.int x0)] [] M Q := by
  obtain ⟨G, S0, now, late, risk, A, L, sq, nl, rf, hr, lg, w, tp⟩ := X
  obtain ⟨hW, hw0, wn, wl, wr, wA_, wsq, wnl, wmo, wtk, wwt, wtp, wO0, wB0⟩ := id hX
  obtain ⟨b1, b2, b3, b4, b5, b6, b7, b8, b9, wmap, wlink, wk0, wk1, b10, b11, wword⟩ := id hW
  have nb : nl ≤ 2000 := by rw [wnl]; exact mcnt_le 2000
  obtain ⟨hG, hKF, hKR, hL, hKE, hKS, hKW, hKT, hKM⟩ := id hC
  obtain ⟨hno, hla, hri, hnl, hrf, hhr⟩ := id hKM
  have hSn : CS G (Zf G A S0 now) M (61 + 10 * (now % 16)) := hKR.1 now (by omega) (by omega)
  have hwn : wS G (Zf G A S0 now) := wS_Zf hW hw0 now
  rcases xix_cases x0 (n := gD G) (by omega) with ⟨ec0, hc0⟩ | ⟨k0, hk0, rfl, ec0⟩
  · skip
    refine xi_aload_n dX9_open_0 rfl ?_
    refine xi_getR dX9_open_1 fgX9_10 cc0 rfl ?_
    refine xi_iload_n dX9_open_4 rfl ?_
    refine xi_callV [.int x0] [] dX9_open_5 zX1_hasDoor mlX9_137 cc1 rfl rfl rfl rfl rfl (Nat.le_of_ble_eq_true rfl) (Nat.le_of_ble_eq_true rfl) ⟨by decide, by decide⟩ ?_
    refine g_hasDF hW hG hc0 ?_
    show WP _ _ 8 _ [.int (xb false)] _ _
    refine xb_if_ne false 13 dX9_open_8 (by decide) rfl (fun z => absurd z (by decide)) (fun _ => ?_)
    refine xi_iconst (v := (-1)) dX9_open_11 rfl ?_
    refine xi_iret (v := (-1)) dX9_open_12 rfl ?_
    have e : a_open (G, S0, now, late, risk, A, L, sq, nl, rf, hr, lg, w, tp) x0 = -1 := by simp only [a_open, ec0]
    rw [e] at h
    exact h
  refine xi_aload_n dX9_open_0 rfl ?_
  refine xi_getR dX9_open_1 fgX9_10 cc0 rfl ?_
  refine xi_iload_n dX9_open_4 rfl ?_
  refine xi_callV [.int (nI k0)] [] dX9_open_5 zX1_hasDoor mlX9_137 cc1 rfl rfl rfl rfl rfl (Nat.le_of_ble_eq_true rfl) (Nat.le_of_ble_eq_true rfl) ⟨by decide, by decide⟩ ?_
  refine g_hasDT hW hG (k := k0) (by omega) ?_
  show WP _ _ 8 _ [.int (xb true)] _ _
  refine xb_if_ne true 13 dX9_open_8 (by decide) rfl (fun _ => ?_) (fun z => absurd z (by decide))
  refine xi_aload_n dX9_open_13 rfl ?_
  refine xi_getR dX9_open_14 fgX9_30 cc0 rfl ?_
  refine xi_aload_n dX9_open_17 rfl ?_
  refine xe_getI (v := nI now) dX9_open_18 fgX9_98 cc0 rfl hno ?_
  refine xi_callV [.int (nI now)] [] dX9_open_21 zX5_stateAt mlX9_215 cc9 rfl rfl rfl rfl rfl (Nat.le_of_ble_eq_true rfl) (Nat.le_of_ble_eq_true rfl) ⟨by decide, by decide⟩ ?_
  refine g_at9 (t := now) (by omega) ?_
  show WP _ _ 24 _ [.ref (61 + 10 * (now % 16))] _ _
  refine xi_getR dX9_open_24 fgX9_299 (so (isSt_ring now)) rfl ?_
  refine xi_iload_n dX9_open_27 rfl ?_
  refine xe_iald (v := sO (Zf G A S0 now) k0) k0 dX9_open_28 (sa9 (isSt_ring now)) (by decide) rfl (by omega) (csO hSn (by omega)) ?_
  refine xi_iret (v := sO (Zf G A S0 now) k0) dX9_open_29 rfl ?_
  simp only [a_open, ec0] at h
  exact h

set_option maxHeartbeats 4000000 in
set_option maxRecDepth 100000 in
theorem cl_sees {X : xX} {M : xM} {Q : Option Value → xM → Prop} (hX : wX X) (hC : RepC X M) (x0 : Int32) (x1 : Int32) (h : Q (some (.int (a_sees X x0 x1))) M) : WP shC mX9_sees 0 [some (.ref 0), some (.int x0), some (.int x1)] [] M Q := by
  obtain ⟨G, S0, now, late, risk, A, L, sq, nl, rf, hr, lg, w, tp⟩ := X
  obtain ⟨hW, hw0, wn, wl, wr, wA_, wsq, wnl, wmo, wtk, wwt, wtp, wO0, wB0⟩ := id hX
  obtain ⟨b1, b2, b3, b4, b5, b6, b7, b8, b9, wmap, wlink, wk0, wk1, b10, b11, wword⟩ := id hW
  have nb : nl ≤ 2000 := by rw [wnl]; exact mcnt_le 2000
  obtain ⟨hG, hKF, hKR, hL, hKE, hKS, hKW, hKT, hKM⟩ := id hC
  obtain ⟨hno, hla, hri, hnl, hrf, hhr⟩ := id hKM
  have hSn : CS G (Zf G A S0 now) M (61 + 10 * (now % 16)) := hKR.1 now (by omega) (by omega)
  have hwn : wS G (Zf G A S0 now) := wS_Zf hW hw0 now
  rcases xix_cases x0 (n := gP G) (by omega) with ⟨ec0, hc0⟩ | ⟨k0, hk0, rfl, ec0⟩
  · skip
    refine xi_aload_n dX9_sees_0 rfl ?_
    refine xi_getR dX9_sees_1 fgX9_10 cc0 rfl ?_
    refine xi_iload_n dX9_sees_4 rfl ?_
    refine xi_callV [.int x0] [] dX9_sees_5 zX1_hasPlayer mlX9_200 cc1 rfl rfl rfl rfl rfl (Nat.le_of_ble_eq_true rfl) (Nat.le_of_ble_eq_true rfl) ⟨by decide, by decide⟩ ?_
    refine g_hasPF hW hG hc0 ?_
    show WP _ _ 8 _ [.int (xb false)] _ _
    refine xb_if_eq false 22 dX9_sees_8 (by decide) rfl (fun _ => ?_) (fun z => absurd z (by decide))
    refine xi_iconst (v := (-1)) dX9_sees_22 rfl ?_
    refine xi_iret (v := (-1)) dX9_sees_23 rfl ?_
    have e : a_sees (G, S0, now, late, risk, A, L, sq, nl, rf, hr, lg, w, tp) x0 x1 = -1 := by simp only [a_sees, ec0]
    rw [e] at h
    exact h
  rcases xix_cases x1 (n := gN G) (by omega) with ⟨ec1, hc1⟩ | ⟨k1, hk1, rfl, ec1⟩
  · skip
    refine xi_aload_n dX9_sees_0 rfl ?_
    refine xi_getR dX9_sees_1 fgX9_10 cc0 rfl ?_
    refine xi_iload_n dX9_sees_4 rfl ?_
    refine xi_callV [.int (nI k0)] [] dX9_sees_5 zX1_hasPlayer mlX9_200 cc1 rfl rfl rfl rfl rfl (Nat.le_of_ble_eq_true rfl) (Nat.le_of_ble_eq_true rfl) ⟨by decide, by decide⟩ ?_
    refine g_hasPT hW hG (k := k0) (by omega) ?_
    show WP _ _ 8 _ [.int (xb true)] _ _
    refine xb_if_eq true 22 dX9_sees_8 (by decide) rfl (fun z => absurd z (by decide)) (fun _ => ?_)
    refine xi_aload_n dX9_sees_11 rfl ?_
    refine xi_getR dX9_sees_12 fgX9_10 cc0 rfl ?_
    refine xi_iload_n dX9_sees_15 rfl ?_
    refine xi_callV [.int x1] [] dX9_sees_16 zX1_hasCell mlX9_116 cc1 rfl rfl rfl rfl rfl (Nat.le_of_ble_eq_true rfl) (Nat.le_of_ble_eq_true rfl) ⟨by decide, by decide⟩ ?_
    refine g_hasCF hW hG hc1 ?_
    show WP _ _ 19 _ [.int (xb false)] _ _
    refine xb_if_ne false 24 dX9_sees_19 (by decide) rfl (fun z => absurd z (by decide)) (fun _ => ?_)
    refine xi_iconst (v := (-1)) dX9_sees_22 rfl ?_
    refine xi_iret (v := (-1)) dX9_sees_23 rfl ?_
    have e : a_sees (G, S0, now, late, risk, A, L, sq, nl, rf, hr, lg, w, tp) (nI k0) x1 = -1 := by simp only [a_sees, ec0, ec1]
    rw [e] at h
    exact h
  refine xi_aload_n dX9_sees_0 rfl ?_
  refine xi_getR dX9_sees_1 fgX9_10 cc0 rfl ?_
  refine xi_iload_n dX9_sees_4 rfl ?_
  refine xi_callV [.int (nI k0)] [] dX9_sees_5 zX1_hasPlayer mlX9_200 cc1 rfl rfl rfl rfl rfl (Nat.le_of_ble_eq_true rfl) (Nat.le_of_ble_eq_true rfl) ⟨by decide, by decide⟩ ?_
  refine g_hasPT hW hG (k := k0) (by omega) ?_
  show WP _ _ 8 _ [.int (xb true)] _ _
  refine xb_if_eq true 22 dX9_sees_8 (by decide) rfl (fun z => absurd z (by decide)) (fun _ => ?_)
  refine xi_aload_n dX9_sees_11 rfl ?_
  refine xi_getR dX9_sees_12 fgX9_10 cc0 rfl ?_
  refine xi_iload_n dX9_sees_15 rfl ?_
  refine xi_callV [.int (nI k1)] [] dX9_sees_16 zX1_hasCell mlX9_116 cc1 rfl rfl rfl rfl rfl (Nat.le_of_ble_eq_true rfl) (Nat.le_of_ble_eq_true rfl) ⟨by decide, by decide⟩ ?_
  refine g_hasCT hW hG (k := k1) (by omega) ?_
  show WP _ _ 19 _ [.int (xb true)] _ _
  refine xb_if_ne true 24 dX9_sees_19 (by decide) rfl (fun _ => ?_) (fun z => absurd z (by decide))
  refine xi_aload_n dX9_sees_24 rfl ?_
  refine xi_getR dX9_sees_25 fgX9_30 cc0 rfl ?_
  refine xi_aload_n dX9_sees_28 rfl ?_
  refine xe_getI (v := nI now) dX9_sees_29 fgX9_98 cc0 rfl hno ?_
  refine xi_callV [.int (nI now)] [] dX9_sees_32 zX5_stateAt mlX9_215 cc9 rfl rfl rfl rfl rfl (Nat.le_of_ble_eq_true rfl) (Nat.le_of_ble_eq_true rfl) ⟨by decide, by decide⟩ ?_
  refine g_at9 (t := now) (by omega) ?_
  show WP _ _ 35 _ [.ref (61 + 10 * (now % 16))] _ _
  refine xi_iload_n dX9_sees_35 rfl ?_
  refine xi_iload_n dX9_sees_36 rfl ?_
  refine xi_callV [.int (nI k0), .int (nI k1)] [] dX9_sees_37 zX6_spots mlX9_302 (so (isSt_ring now)) rfl rfl rfl rfl rfl (Nat.le_of_ble_eq_true rfl) (Nat.le_of_ble_eq_true rfl) ⟨by decide, by decide⟩ ?_
  refine s_spot hW hG (isSt_ring now) hSn hwn (p := k0) (k := k1) (by omega) (by omega) ?_
  show WP _ _ 40 _ [.int (xb (mspot G (Zf G A S0 now) k0 k1))] _ _
  refine xb_if_eq (mspot G (Zf G A S0 now) k0 k1) 47 dX9_sees_40 (by decide) rfl (fun h40 => ?_) (fun h40 => ?_)
  · skip
    refine xi_iconst (v := 0) dX9_sees_47 rfl ?_
    refine xi_iret (v := 0) dX9_sees_48 rfl ?_
    simp only [a_sees, ec0, ec1, h40] at h
    exact h
  · skip
    refine xi_iconst (v := 1) dX9_sees_43 rfl ?_
    refine xi_goto 48 dX9_sees_44 (by decide) ?_
    refine xi_iret (v := 1) dX9_sees_48 rfl ?_
    simp only [a_sees, ec0, ec1, h40] at h
    exact h

set_option maxHeartbeats 4000000 in
set_option maxRecDepth 100000 in
theorem cl_told {X : xX} {M : xM} {Q : Option Value → xM → Prop} (hX : wX X) (hC : RepC X M) (x0 : Int32) (x1 : Int32) (h : Q (some (.int (a_told X x0 x1))) M) : WP shC mX9_told 0 [some (.ref 0), some (.int x0), some (.int x1)] [] M Q := by
  obtain ⟨G, S0, now, late, risk, A, L, sq, nl, rf, hr, lg, w, tp⟩ := X
  obtain ⟨hW, hw0, wn, wl, wr, wA_, wsq, wnl, wmo, wtk, wwt, wtp, wO0, wB0⟩ := id hX
  obtain ⟨b1, b2, b3, b4, b5, b6, b7, b8, b9, wmap, wlink, wk0, wk1, b10, b11, wword⟩ := id hW
  have nb : nl ≤ 2000 := by rw [wnl]; exact mcnt_le 2000
  obtain ⟨hG, hKF, hKR, hL, hKE, hKS, hKW, hKT, hKM⟩ := id hC
  obtain ⟨hno, hla, hri, hnl, hrf, hhr⟩ := id hKM
  have hSn : CS G (Zf G A S0 now) M (61 + 10 * (now % 16)) := hKR.1 now (by omega) (by omega)
  have hwn : wS G (Zf G A S0 now) := wS_Zf hW hw0 now
  rcases xix_cases x0 (n := gP G) (by omega) with ⟨ec0, hc0⟩ | ⟨k0, hk0, rfl, ec0⟩
  · skip
    refine xi_aload_n dX9_told_0 rfl ?_
    refine xi_getR dX9_told_1 fgX9_10 cc0 rfl ?_
    refine xi_iload_n dX9_told_4 rfl ?_
    refine xi_callV [.int x0] [] dX9_told_5 zX1_hasPlayer mlX9_200 cc1 rfl rfl rfl rfl rfl (Nat.le_of_ble_eq_true rfl) (Nat.le_of_ble_eq_true rfl) ⟨by decide, by decide⟩ ?_
    refine g_hasPF hW hG hc0 ?_
    show WP _ _ 8 _ [.int (xb false)] _ _
    refine xb_if_eq false 22 dX9_told_8 (by decide) rfl (fun _ => ?_) (fun z => absurd z (by decide))
    refine xi_iconst (v := (-1)) dX9_told_22 rfl ?_
    refine xi_iret (v := (-1)) dX9_told_23 rfl ?_
    have e : a_told (G, S0, now, late, risk, A, L, sq, nl, rf, hr, lg, w, tp) x0 x1 = -1 := by simp only [a_told, ec0]
    rw [e] at h
    exact h
  rcases xix_cases x1 (n := gN G) (by omega) with ⟨ec1, hc1⟩ | ⟨k1, hk1, rfl, ec1⟩
  · skip
    refine xi_aload_n dX9_told_0 rfl ?_
    refine xi_getR dX9_told_1 fgX9_10 cc0 rfl ?_
    refine xi_iload_n dX9_told_4 rfl ?_
    refine xi_callV [.int (nI k0)] [] dX9_told_5 zX1_hasPlayer mlX9_200 cc1 rfl rfl rfl rfl rfl (Nat.le_of_ble_eq_true rfl) (Nat.le_of_ble_eq_true rfl) ⟨by decide, by decide⟩ ?_
    refine g_hasPT hW hG (k := k0) (by omega) ?_
    show WP _ _ 8 _ [.int (xb true)] _ _
    refine xb_if_eq true 22 dX9_told_8 (by decide) rfl (fun z => absurd z (by decide)) (fun _ => ?_)
    refine xi_aload_n dX9_told_11 rfl ?_
    refine xi_getR dX9_told_12 fgX9_10 cc0 rfl ?_
    refine xi_iload_n dX9_told_15 rfl ?_
    refine xi_callV [.int x1] [] dX9_told_16 zX1_hasCell mlX9_116 cc1 rfl rfl rfl rfl rfl (Nat.le_of_ble_eq_true rfl) (Nat.le_of_ble_eq_true rfl) ⟨by decide, by decide⟩ ?_
    refine g_hasCF hW hG hc1 ?_
    show WP _ _ 19 _ [.int (xb false)] _ _
    refine xb_if_ne false 24 dX9_told_19 (by decide) rfl (fun z => absurd z (by decide)) (fun _ => ?_)
    refine xi_iconst (v := (-1)) dX9_told_22 rfl ?_
    refine xi_iret (v := (-1)) dX9_told_23 rfl ?_
    have e : a_told (G, S0, now, late, risk, A, L, sq, nl, rf, hr, lg, w, tp) (nI k0) x1 = -1 := by simp only [a_told, ec0, ec1]
    rw [e] at h
    exact h
  refine xi_aload_n dX9_told_0 rfl ?_
  refine xi_getR dX9_told_1 fgX9_10 cc0 rfl ?_
  refine xi_iload_n dX9_told_4 rfl ?_
  refine xi_callV [.int (nI k0)] [] dX9_told_5 zX1_hasPlayer mlX9_200 cc1 rfl rfl rfl rfl rfl (Nat.le_of_ble_eq_true rfl) (Nat.le_of_ble_eq_true rfl) ⟨by decide, by decide⟩ ?_
  refine g_hasPT hW hG (k := k0) (by omega) ?_
  show WP _ _ 8 _ [.int (xb true)] _ _
  refine xb_if_eq true 22 dX9_told_8 (by decide) rfl (fun z => absurd z (by decide)) (fun _ => ?_)
  refine xi_aload_n dX9_told_11 rfl ?_
  refine xi_getR dX9_told_12 fgX9_10 cc0 rfl ?_
  refine xi_iload_n dX9_told_15 rfl ?_
  refine xi_callV [.int (nI k1)] [] dX9_told_16 zX1_hasCell mlX9_116 cc1 rfl rfl rfl rfl rfl (Nat.le_of_ble_eq_true rfl) (Nat.le_of_ble_eq_true rfl) ⟨by decide, by decide⟩ ?_
  refine g_hasCT hW hG (k := k1) (by omega) ?_
  show WP _ _ 19 _ [.int (xb true)] _ _
  refine xb_if_ne true 24 dX9_told_19 (by decide) rfl (fun _ => ?_) (fun z => absurd z (by decide))
  refine xi_aload_n dX9_told_24 rfl ?_
  refine xi_getR dX9_told_25 fgX9_30 cc0 rfl ?_
  refine xi_aload_n dX9_told_28 rfl ?_
  refine xe_getI (v := nI now) dX9_told_29 fgX9_98 cc0 rfl hno ?_
  refine xi_callV [.int (nI now)] [] dX9_told_32 zX5_stateAt mlX9_215 cc9 rfl rfl rfl rfl rfl (Nat.le_of_ble_eq_true rfl) (Nat.le_of_ble_eq_true rfl) ⟨by decide, by decide⟩ ?_
  refine g_at9 (t := now) (by omega) ?_
  show WP _ _ 35 _ [.ref (61 + 10 * (now % 16))] _ _
  refine xi_iload_n dX9_told_35 rfl ?_
  refine xi_iload_n dX9_told_36 rfl ?_
  refine xi_callV [.int (nI k0), .int (nI k1)] [] dX9_told_37 zX6_tellOf mlX9_305 (so (isSt_ring now)) rfl rfl rfl rfl rfl (Nat.le_of_ble_eq_true rfl) (Nat.le_of_ble_eq_true rfl) ⟨by decide, by decide⟩ ?_
  refine s_tell hW hG (isSt_ring now) hSn hwn (p := k0) (k := k1) (by omega) (by omega) ?_
  show WP _ _ 40 _ [.int (xo (mtell G (Zf G A S0 now) k0 k1))] _ _
  refine xi_iret (v := xo (mtell G (Zf G A S0 now) k0 k1)) dX9_told_40 rfl ?_
  simp only [a_told, ec0, ec1] at h
  exact h

set_option maxHeartbeats 4000000 in
set_option maxRecDepth 100000 in
theorem cl_letter {X : xX} {M : xM} {Q : Option Value → xM → Prop} (hX : wX X) (hC : RepC X M) (x0 : Int32) (x1 : Int32) (h : Q (some (.int (a_letter X x0 x1))) M) : WP shC mX9_letter 0 [some (.ref 0), some (.int x0), some (.int x1)] [] M Q := by
  obtain ⟨G, S0, now, late, risk, A, L, sq, nl, rf, hr, lg, w, tp⟩ := X
  obtain ⟨hW, hw0, wn, wl, wr, wA_, wsq, wnl, wmo, wtk, wwt, wtp, wO0, wB0⟩ := id hX
  obtain ⟨b1, b2, b3, b4, b5, b6, b7, b8, b9, wmap, wlink, wk0, wk1, b10, b11, wword⟩ := id hW
  have nb : nl ≤ 2000 := by rw [wnl]; exact mcnt_le 2000
  obtain ⟨hG, hKF, hKR, hL, hKE, hKS, hKW, hKT, hKM⟩ := id hC
  obtain ⟨hno, hla, hri, hnl, hrf, hhr⟩ := id hKM
  have hSn : CS G (Zf G A S0 now) M (61 + 10 * (now % 16)) := hKR.1 now (by omega) (by omega)
  have hwn : wS G (Zf G A S0 now) := wS_Zf hW hw0 now
  rcases xix_cases x0 (n := gP G) (by omega) with ⟨ec0, hc0⟩ | ⟨k0, hk0, rfl, ec0⟩
  · skip
    refine xi_aload_n dX9_letter_0 rfl ?_
    refine xi_getR dX9_letter_1 fgX9_10 cc0 rfl ?_
    refine xi_iload_n dX9_letter_4 rfl ?_
    refine xi_callV [.int x0] [] dX9_letter_5 zX1_hasPlayer mlX9_200 cc1 rfl rfl rfl rfl rfl (Nat.le_of_ble_eq_true rfl) (Nat.le_of_ble_eq_true rfl) ⟨by decide, by decide⟩ ?_
    refine g_hasPF hW hG hc0 ?_
    show WP _ _ 8 _ [.int (xb false)] _ _
    refine xb_if_eq false 19 dX9_letter_8 (by decide) rfl (fun _ => ?_) (fun z => absurd z (by decide))
    refine xi_iconst (v := (-1)) dX9_letter_19 rfl ?_
    refine xi_iret (v := (-1)) dX9_letter_20 rfl ?_
    have e : a_letter (G, S0, now, late, risk, A, L, sq, nl, rf, hr, lg, w, tp) x0 x1 = -1 := by simp only [a_letter, ec0]
    rw [e] at h
    exact h
  rcases xix_cases x1 (n := now + 1) (by omega) with ⟨ec1, hc1⟩ | ⟨k1, hk1, rfl, ec1⟩
  · skip
    refine xi_aload_n dX9_letter_0 rfl ?_
    refine xi_getR dX9_letter_1 fgX9_10 cc0 rfl ?_
    refine xi_iload_n dX9_letter_4 rfl ?_
    refine xi_callV [.int (nI k0)] [] dX9_letter_5 zX1_hasPlayer mlX9_200 cc1 rfl rfl rfl rfl rfl (Nat.le_of_ble_eq_true rfl) (Nat.le_of_ble_eq_true rfl) ⟨by decide, by decide⟩ ?_
    refine g_hasPT hW hG (k := k0) (by omega) ?_
    show WP _ _ 8 _ [.int (xb true)] _ _
    refine xb_if_eq true 19 dX9_letter_8 (by decide) rfl (fun z => absurd z (by decide)) (fun _ => ?_)
    refine xi_aload_n dX9_letter_11 rfl ?_
    refine xi_iload_n dX9_letter_12 rfl ?_
    refine xi_callV [.int x1] [] dX9_letter_13 zX9_remembers mlX9_308 cc0 rfl rfl rfl rfl rfl (Nat.le_of_ble_eq_true rfl) (Nat.le_of_ble_eq_true rfl) ⟨by decide, by decide⟩ ?_
    refine c_remF hX hC (at_rg (by omega) hc1 rfl) ?_
    show WP _ _ 16 _ [.int (xb false)] _ _
    refine xb_if_ne false 21 dX9_letter_16 (by decide) rfl (fun z => absurd z (by decide)) (fun _ => ?_)
    refine xi_iconst (v := (-1)) dX9_letter_19 rfl ?_
    refine xi_iret (v := (-1)) dX9_letter_20 rfl ?_
    have e : a_letter (G, S0, now, late, risk, A, L, sq, nl, rf, hr, lg, w, tp) (nI k0) x1 = -1 := by simp only [a_letter, ec0, ec1]
    rw [e] at h
    exact h
  refine xi_aload_n dX9_letter_0 rfl ?_
  refine xi_getR dX9_letter_1 fgX9_10 cc0 rfl ?_
  refine xi_iload_n dX9_letter_4 rfl ?_
  refine xi_callV [.int (nI k0)] [] dX9_letter_5 zX1_hasPlayer mlX9_200 cc1 rfl rfl rfl rfl rfl (Nat.le_of_ble_eq_true rfl) (Nat.le_of_ble_eq_true rfl) ⟨by decide, by decide⟩ ?_
  refine g_hasPT hW hG (k := k0) (by omega) ?_
  show WP _ _ 8 _ [.int (xb true)] _ _
  refine xb_if_eq true 19 dX9_letter_8 (by decide) rfl (fun z => absurd z (by decide)) (fun _ => ?_)
  refine xi_aload_n dX9_letter_11 rfl ?_
  refine xi_iload_n dX9_letter_12 rfl ?_
  refine xi_callV [.int (nI k1)] [] dX9_letter_13 zX9_remembers mlX9_308 cc0 rfl rfl rfl rfl rfl (Nat.le_of_ble_eq_true rfl) (Nat.le_of_ble_eq_true rfl) ⟨by decide, by decide⟩ ?_
  refine c_remT hX hC (k := k1) (by omega) ?_
  show WP _ _ 16 _ [.int (xb (decide (now ≤ k1 + 8)))] _ _
  refine xb_if_ne (decide (now ≤ k1 + 8)) 21 dX9_letter_16 (by decide) rfl (fun h16 => ?_) (fun h16 => ?_)
  · skip
    have hSt : CS G (Zf G A S0 k1) M (61 + 10 * (k1 % 16)) := hKR.1 k1 (by have := of_decide_eq_true h16; omega) (by omega)
    have hwt : wS G (Zf G A S0 k1) := wS_Zf hW hw0 k1
    refine xi_aload_n dX9_letter_21 rfl ?_
    refine xi_getR dX9_letter_22 fgX9_30 cc0 rfl ?_
    refine xi_iload_n dX9_letter_25 rfl ?_
    refine xi_callV [.int (nI k1)] [] dX9_letter_26 zX5_stateAt mlX9_215 cc9 rfl rfl rfl rfl rfl (Nat.le_of_ble_eq_true rfl) (Nat.le_of_ble_eq_true rfl) ⟨by decide, by decide⟩ ?_
    refine g_at9 (t := k1) (by omega) ?_
    show WP _ _ 29 _ [.ref (61 + 10 * (k1 % 16))] _ _
    refine xi_iload_n dX9_letter_29 rfl ?_
    refine xi_callV [.int (nI k0)] [] dX9_letter_30 zX6_letterTo mlX9_311 (so (isSt_ring k1)) rfl rfl rfl rfl rfl (Nat.le_of_ble_eq_true rfl) (Nat.le_of_ble_eq_true rfl) ⟨by decide, by decide⟩ ?_
    refine s_letter hW hG (isSt_ring k1) hSt hwt (p := k0) (by omega) ?_
    show WP _ _ 33 _ [.int (mletter G (Zf G A S0 k1) k0)] _ _
    refine xi_iret (v := (mletter G (Zf G A S0 k1) k0)) dX9_letter_33 rfl ?_
    simp only [a_letter, ec0, ec1] at h
    rw [if_pos (of_decide_eq_true h16)] at h
    exact h
  · skip
    refine xi_iconst (v := (-1)) dX9_letter_19 rfl ?_
    refine xi_iret (v := (-1)) dX9_letter_20 rfl ?_
    simp only [a_letter, ec0, ec1] at h
    rw [if_neg (of_decide_eq_false h16)] at h
    exact h

set_option maxHeartbeats 4000000 in
set_option maxRecDepth 100000 in
theorem cl_digest {X : xX} {M : xM} {Q : Option Value → xM → Prop} (hX : wX X) (hC : RepC X M) (x0 : Int32) (h : Q (some (.int (a_digest X x0))) M) : WP shC mX9_digest 0 [some (.ref 0), some (.int x0)] [] M Q := by
  obtain ⟨G, S0, now, late, risk, A, L, sq, nl, rf, hr, lg, w, tp⟩ := X
  obtain ⟨hW, hw0, wn, wl, wr, wA_, wsq, wnl, wmo, wtk, wwt, wtp, wO0, wB0⟩ := id hX
  obtain ⟨b1, b2, b3, b4, b5, b6, b7, b8, b9, wmap, wlink, wk0, wk1, b10, b11, wword⟩ := id hW
  have nb : nl ≤ 2000 := by rw [wnl]; exact mcnt_le 2000
  obtain ⟨hG, hKF, hKR, hL, hKE, hKS, hKW, hKT, hKM⟩ := id hC
  obtain ⟨hno, hla, hri, hnl, hrf, hhr⟩ := id hKM
  have hSn : CS G (Zf G A S0 now) M (61 + 10 * (now % 16)) := hKR.1 now (by omega) (by omega)
  have hwn : wS G (Zf G A S0 now) := wS_Zf hW hw0 now
  rcases xix_cases x0 (n := now + 1) (by omega) with ⟨ec0, hc0⟩ | ⟨k0, hk0, rfl, ec0⟩
  · skip
    refine xi_aload_n dX9_digest_0 rfl ?_
    refine xi_iload_n dX9_digest_1 rfl ?_
    refine xi_callV [.int x0] [] dX9_digest_2 zX9_remembers mlX9_308 cc0 rfl rfl rfl rfl rfl (Nat.le_of_ble_eq_true rfl) (Nat.le_of_ble_eq_true rfl) ⟨by decide, by decide⟩ ?_
    refine c_remF hX hC (at_rg (by omega) hc0 rfl) ?_
    show WP _ _ 5 _ [.int (xb false)] _ _
    refine xb_if_eq false 22 dX9_digest_5 (by decide) rfl (fun _ => ?_) (fun z => absurd z (by decide))
    refine xi_iconst (v := (-1)) dX9_digest_22 rfl ?_
    refine xi_iret (v := (-1)) dX9_digest_23 rfl ?_
    have e : a_digest (G, S0, now, late, risk, A, L, sq, nl, rf, hr, lg, w, tp) x0 = -1 := by simp only [a_digest, ec0]
    rw [e] at h
    exact h
  refine xi_aload_n dX9_digest_0 rfl ?_
  refine xi_iload_n dX9_digest_1 rfl ?_
  refine xi_callV [.int (nI k0)] [] dX9_digest_2 zX9_remembers mlX9_308 cc0 rfl rfl rfl rfl rfl (Nat.le_of_ble_eq_true rfl) (Nat.le_of_ble_eq_true rfl) ⟨by decide, by decide⟩ ?_
  refine c_remT hX hC (k := k0) (by omega) ?_
  show WP _ _ 5 _ [.int (xb (decide (now ≤ k0 + 8)))] _ _
  refine xb_if_eq (decide (now ≤ k0 + 8)) 22 dX9_digest_5 (by decide) rfl (fun h5 => ?_) (fun h5 => ?_)
  · skip
    refine xi_iconst (v := (-1)) dX9_digest_22 rfl ?_
    refine xi_iret (v := (-1)) dX9_digest_23 rfl ?_
    simp only [a_digest, ec0] at h
    rw [if_neg (of_decide_eq_false h5)] at h
    exact h
  · skip
    have hSt : CS G (Zf G A S0 k0) M (61 + 10 * (k0 % 16)) := hKR.1 k0 (by have := of_decide_eq_true h5; omega) (by omega)
    have hwt : wS G (Zf G A S0 k0) := wS_Zf hW hw0 k0
    refine xi_aload_n dX9_digest_8 rfl ?_
    refine xi_getR dX9_digest_9 fgX9_30 cc0 rfl ?_
    refine xi_iload_n dX9_digest_12 rfl ?_
    refine xi_callV [.int (nI k0)] [] dX9_digest_13 zX5_stateAt mlX9_215 cc9 rfl rfl rfl rfl rfl (Nat.le_of_ble_eq_true rfl) (Nat.le_of_ble_eq_true rfl) ⟨by decide, by decide⟩ ?_
    refine g_at9 (t := k0) (by omega) ?_
    show WP _ _ 16 _ [.ref (61 + 10 * (k0 % 16))] _ _
    refine xi_callV [] [] dX9_digest_16 zX6_sumUp mlX9_314 (so (isSt_ring k0)) rfl rfl rfl rfl rfl (Nat.le_of_ble_eq_true rfl) (Nat.le_of_ble_eq_true rfl) ⟨by decide, by decide⟩ ?_
    refine s_dig hW hG (isSt_ring k0) hSt hwt ?_
    show WP _ _ 19 _ [.int (mdig G (Zf G A S0 k0))] _ _
    refine xi_goto 23 dX9_digest_19 (by decide) ?_
    refine xi_iret (v := (mdig G (Zf G A S0 k0))) dX9_digest_23 rfl ?_
    simp only [a_digest, ec0] at h
    rw [if_pos (of_decide_eq_true h5)] at h
    exact h

set_option maxHeartbeats 4000000 in
set_option maxRecDepth 100000 in
theorem cl_act {X : xX} {M : xM} {Q : Option Value → xM → Prop} (hX : wX X) (hC : RepC X M) (x0 : Int32) (x1 : Int32) (h : Q (some (.int (a_act X x0 x1))) M) : WP shC mX9_act 0 [some (.ref 0), some (.int x0), some (.int x1)] [] M Q := by
  obtain ⟨G, S0, now, late, risk, A, L, sq, nl, rf, hr, lg, w, tp⟩ := X
  obtain ⟨hW, hw0, wn, wl, wr, wA_, wsq, wnl, wmo, wtk, wwt, wtp, wO0, wB0⟩ := id hX
  obtain ⟨b1, b2, b3, b4, b5, b6, b7, b8, b9, wmap, wlink, wk0, wk1, b10, b11, wword⟩ := id hW
  have nb : nl ≤ 2000 := by rw [wnl]; exact mcnt_le 2000
  obtain ⟨hG, hKF, hKR, hL, hKE, hKS, hKW, hKT, hKM⟩ := id hC
  obtain ⟨hno, hla, hri, hnl, hrf, hhr⟩ := id hKM
  have hSn : CS G (Zf G A S0 now) M (61 + 10 * (now % 16)) := hKR.1 now (by omega) (by omega)
  have hwn : wS G (Zf G A S0 now) := wS_Zf hW hw0 now
  rcases xix_cases x0 (n := 500) (by omega) with ⟨ec0, hc0⟩ | ⟨k0, hk0, rfl, ec0⟩
  · skip
    refine xi_iload_n dX9_act_0 rfl ?_
    refine xi_if_lt 22 dX9_act_1 (by decide) (fun h1 => ?_) (fun h1 => ?_)
    · skip
      refine xi_iconst (v := (-1)) dX9_act_22 rfl ?_
      refine xi_iret (v := (-1)) dX9_act_23 rfl ?_
      have e : a_act (G, S0, now, late, risk, A, L, sq, nl, rf, hr, lg, w, tp) x0 x1 = -1 := by simp only [a_act, ec0]
      rw [e] at h
      exact h
    · skip
      refine xi_iload_n dX9_act_4 rfl ?_
      refine xi_sipush (v := 500) dX9_act_5 (by decide) ?_
      refine xi_icmp_ge 22 dX9_act_8 (by decide) (fun h8 => ?_) (fun z => hc0.elim (fun q => absurd q h1) (fun q => absurd q z))
      refine xi_iconst (v := (-1)) dX9_act_22 rfl ?_
      refine xi_iret (v := (-1)) dX9_act_23 rfl ?_
      have e : a_act (G, S0, now, late, risk, A, L, sq, nl, rf, hr, lg, w, tp) x0 x1 = -1 := by simp only [a_act, ec0]
      rw [e] at h
      exact h
  rcases xix_cases x1 (n := gP G) (by omega) with ⟨ec1, hc1⟩ | ⟨k1, hk1, rfl, ec1⟩
  · skip
    refine xi_iload_n dX9_act_0 rfl ?_
    refine xn_if_lt k0 22 dX9_act_1 (by decide) rfl (by omega) ?_
    refine xi_iload_n dX9_act_4 rfl ?_
    refine xi_sipush (v := 500) dX9_act_5 (by decide) ?_
    refine xn_icmp_ge k0 500 22 dX9_act_8 (by decide) rfl rfl (by omega) (by omega) (fun z => absurd z (by omega)) (fun h8 => ?_)
    refine xi_aload_n dX9_act_11 rfl ?_
    refine xi_getR dX9_act_12 fgX9_10 cc0 rfl ?_
    refine xi_iload_n dX9_act_15 rfl ?_
    refine xi_callV [.int x1] [] dX9_act_16 zX1_hasPlayer mlX9_200 cc1 rfl rfl rfl rfl rfl (Nat.le_of_ble_eq_true rfl) (Nat.le_of_ble_eq_true rfl) ⟨by decide, by decide⟩ ?_
    refine g_hasPF hW hG hc1 ?_
    show WP _ _ 19 _ [.int (xb false)] _ _
    refine xb_if_ne false 24 dX9_act_19 (by decide) rfl (fun z => absurd z (by decide)) (fun _ => ?_)
    refine xi_iconst (v := (-1)) dX9_act_22 rfl ?_
    refine xi_iret (v := (-1)) dX9_act_23 rfl ?_
    have e : a_act (G, S0, now, late, risk, A, L, sq, nl, rf, hr, lg, w, tp) (nI k0) x1 = -1 := by simp only [a_act, ec0, ec1]
    rw [e] at h
    exact h
  refine xi_iload_n dX9_act_0 rfl ?_
  refine xn_if_lt k0 22 dX9_act_1 (by decide) rfl (by omega) ?_
  refine xi_iload_n dX9_act_4 rfl ?_
  refine xi_sipush (v := 500) dX9_act_5 (by decide) ?_
  refine xn_icmp_ge k0 500 22 dX9_act_8 (by decide) rfl rfl (by omega) (by omega) (fun z => absurd z (by omega)) (fun h8 => ?_)
  refine xi_aload_n dX9_act_11 rfl ?_
  refine xi_getR dX9_act_12 fgX9_10 cc0 rfl ?_
  refine xi_iload_n dX9_act_15 rfl ?_
  refine xi_callV [.int (nI k1)] [] dX9_act_16 zX1_hasPlayer mlX9_200 cc1 rfl rfl rfl rfl rfl (Nat.le_of_ble_eq_true rfl) (Nat.le_of_ble_eq_true rfl) ⟨by decide, by decide⟩ ?_
  refine g_hasPT hW hG (k := k1) (by omega) ?_
  show WP _ _ 19 _ [.int (xb true)] _ _
  refine xb_if_ne true 24 dX9_act_19 (by decide) rfl (fun _ => ?_) (fun z => absurd z (by decide))
  refine xi_aload_n dX9_act_24 rfl ?_
  refine xi_getR dX9_act_25 fgX9_40 cc0 rfl ?_
  refine xi_iload_n dX9_act_28 rfl ?_
  refine xi_iload_n dX9_act_29 rfl ?_
  refine xi_callV [.int (nI k0), .int (nI k1)] [] dX9_act_30 zX3_codeOf mlX9_213 cc13 rfl rfl rfl rfl rfl (Nat.le_of_ble_eq_true rfl) (Nat.le_of_ble_eq_true rfl) ⟨by decide, by decide⟩ ?_
  refine g_code hL (t := k0) (p := k1) (by omega) (by omega) ?_
  show WP _ _ 33 _ [.int (nI (A (k0 * 4 + k1)))] _ _
  refine xi_iret (v := nI (A (k0 * 4 + k1))) dX9_act_33 rfl ?_
  simp only [a_act, ec0, ec1] at h
  rw [Nat.mul_comm 4 k0] at h
  exact h

set_option maxHeartbeats 4000000 in
set_option maxRecDepth 100000 in
theorem cl_hit {X : xX} {M : xM} {Q : Option Value → xM → Prop} (hX : wX X) (hC : RepC X M) (x0 : Int32) (x1 : Int32) (h : Q (some (.int (a_hit X x0 x1))) M) : WP shC mX9_hit 0 [some (.ref 0), some (.int x0), some (.int x1)] [] M Q := by
  obtain ⟨G, S0, now, late, risk, A, L, sq, nl, rf, hr, lg, w, tp⟩ := X
  obtain ⟨hW, hw0, wn, wl, wr, wA_, wsq, wnl, wmo, wtk, wwt, wtp, wO0, wB0⟩ := id hX
  obtain ⟨b1, b2, b3, b4, b5, b6, b7, b8, b9, wmap, wlink, wk0, wk1, b10, b11, wword⟩ := id hW
  have nb : nl ≤ 2000 := by rw [wnl]; exact mcnt_le 2000
  obtain ⟨hG, hKF, hKR, hL, hKE, hKS, hKW, hKT, hKM⟩ := id hC
  obtain ⟨hno, hla, hri, hnl, hrf, hhr⟩ := id hKM
  have hSn : CS G (Zf G A S0 now) M (61 + 10 * (now % 16)) := hKR.1 now (by omega) (by omega)
  have hwn : wS G (Zf G A S0 now) := wS_Zf hW hw0 now
  rcases xix_cases x0 (n := now) (by omega) with ⟨ec0, hc0⟩ | ⟨k0, hk0, rfl, ec0⟩
  · skip
    refine xi_iload_n dX9_hit_0 rfl ?_
    refine xi_if_lt 23 dX9_hit_1 (by decide) (fun h1 => ?_) (fun h1 => ?_)
    · skip
      refine xi_iconst (v := (-1)) dX9_hit_23 rfl ?_
      refine xi_iret (v := (-1)) dX9_hit_24 rfl ?_
      have e : a_hit (G, S0, now, late, risk, A, L, sq, nl, rf, hr, lg, w, tp) x0 x1 = -1 := by simp only [a_hit, ec0]
      rw [e] at h
      exact h
    · skip
      refine xi_iload_n dX9_hit_4 rfl ?_
      refine xi_aload_n dX9_hit_5 rfl ?_
      refine xe_getI (v := nI now) dX9_hit_6 fgX9_98 cc0 rfl hno ?_
      refine xi_icmp_ge 23 dX9_hit_9 (by decide) (fun h9 => ?_) (fun z => hc0.elim (fun q => absurd q h1) (fun q => absurd q z))
      refine xi_iconst (v := (-1)) dX9_hit_23 rfl ?_
      refine xi_iret (v := (-1)) dX9_hit_24 rfl ?_
      have e : a_hit (G, S0, now, late, risk, A, L, sq, nl, rf, hr, lg, w, tp) x0 x1 = -1 := by simp only [a_hit, ec0]
      rw [e] at h
      exact h
  rcases xix_cases x1 (n := gP G) (by omega) with ⟨ec1, hc1⟩ | ⟨k1, hk1, rfl, ec1⟩
  · skip
    refine xi_iload_n dX9_hit_0 rfl ?_
    refine xn_if_lt k0 23 dX9_hit_1 (by decide) rfl (by omega) ?_
    refine xi_iload_n dX9_hit_4 rfl ?_
    refine xi_aload_n dX9_hit_5 rfl ?_
    refine xe_getI (v := nI now) dX9_hit_6 fgX9_98 cc0 rfl hno ?_
    refine xn_icmp_ge k0 now 23 dX9_hit_9 (by decide) rfl rfl (by omega) (by omega) (fun z => absurd z (by omega)) (fun h9 => ?_)
    refine xi_aload_n dX9_hit_12 rfl ?_
    refine xi_getR dX9_hit_13 fgX9_10 cc0 rfl ?_
    refine xi_iload_n dX9_hit_16 rfl ?_
    refine xi_callV [.int x1] [] dX9_hit_17 zX1_hasPlayer mlX9_200 cc1 rfl rfl rfl rfl rfl (Nat.le_of_ble_eq_true rfl) (Nat.le_of_ble_eq_true rfl) ⟨by decide, by decide⟩ ?_
    refine g_hasPF hW hG hc1 ?_
    show WP _ _ 20 _ [.int (xb false)] _ _
    refine xb_if_ne false 25 dX9_hit_20 (by decide) rfl (fun z => absurd z (by decide)) (fun _ => ?_)
    refine xi_iconst (v := (-1)) dX9_hit_23 rfl ?_
    refine xi_iret (v := (-1)) dX9_hit_24 rfl ?_
    have e : a_hit (G, S0, now, late, risk, A, L, sq, nl, rf, hr, lg, w, tp) (nI k0) x1 = -1 := by simp only [a_hit, ec0, ec1]
    rw [e] at h
    exact h
  refine xi_iload_n dX9_hit_0 rfl ?_
  refine xn_if_lt k0 23 dX9_hit_1 (by decide) rfl (by omega) ?_
  refine xi_iload_n dX9_hit_4 rfl ?_
  refine xi_aload_n dX9_hit_5 rfl ?_
  refine xe_getI (v := nI now) dX9_hit_6 fgX9_98 cc0 rfl hno ?_
  refine xn_icmp_ge k0 now 23 dX9_hit_9 (by decide) rfl rfl (by omega) (by omega) (fun z => absurd z (by omega)) (fun h9 => ?_)
  refine xi_aload_n dX9_hit_12 rfl ?_
  refine xi_getR dX9_hit_13 fgX9_10 cc0 rfl ?_
  refine xi_iload_n dX9_hit_16 rfl ?_
  refine xi_callV [.int (nI k1)] [] dX9_hit_17 zX1_hasPlayer mlX9_200 cc1 rfl rfl rfl rfl rfl (Nat.le_of_ble_eq_true rfl) (Nat.le_of_ble_eq_true rfl) ⟨by decide, by decide⟩ ?_
  refine g_hasPT hW hG (k := k1) (by omega) ?_
  show WP _ _ 20 _ [.int (xb true)] _ _
  refine xb_if_ne true 25 dX9_hit_20 (by decide) rfl (fun _ => ?_) (fun z => absurd z (by decide))
  refine xi_aload_n dX9_hit_25 rfl ?_
  refine xi_getR dX9_hit_26 fgX9_40 cc0 rfl ?_
  refine xi_iload_n dX9_hit_29 rfl ?_
  refine xi_iload_n dX9_hit_30 rfl ?_
  refine xi_callV [.int (nI k0), .int (nI k1)] [] dX9_hit_31 zX3_hitOf mlX9_239 cc13 rfl rfl rfl rfl rfl (Nat.le_of_ble_eq_true rfl) (Nat.le_of_ble_eq_true rfl) ⟨by decide, by decide⟩ ?_
  refine g_hit hL (t := k0) (p := k1) (by omega) (by omega) ?_
  show WP _ _ 34 _ [.int (nI ((Hx G A S0 now) (k0 * 4 + k1)))] _ _
  refine xi_iret (v := nI ((Hx G A S0 now) (k0 * 4 + k1))) dX9_hit_34 rfl ?_
  simp only [a_hit, ec0, ec1] at h
  rw [Nat.mul_comm 4 k0] at h
  exact h

set_option maxHeartbeats 4000000 in
set_option maxRecDepth 100000 in
theorem cl_taken {X : xX} {M : xM} {Q : Option Value → xM → Prop} (hX : wX X) (hC : RepC X M) (x0 : Int32) (x1 : Int32) (h : Q (some (.int (a_taken X x0 x1))) M) : WP shC mX9_taken 0 [some (.ref 0), some (.int x0), some (.int x1)] [] M Q := by
  obtain ⟨G, S0, now, late, risk, A, L, sq, nl, rf, hr, lg, w, tp⟩ := X
  obtain ⟨hW, hw0, wn, wl, wr, wA_, wsq, wnl, wmo, wtk, wwt, wtp, wO0, wB0⟩ := id hX
  obtain ⟨b1, b2, b3, b4, b5, b6, b7, b8, b9, wmap, wlink, wk0, wk1, b10, b11, wword⟩ := id hW
  have nb : nl ≤ 2000 := by rw [wnl]; exact mcnt_le 2000
  obtain ⟨hG, hKF, hKR, hL, hKE, hKS, hKW, hKT, hKM⟩ := id hC
  obtain ⟨hno, hla, hri, hnl, hrf, hhr⟩ := id hKM
  have hSn : CS G (Zf G A S0 now) M (61 + 10 * (now % 16)) := hKR.1 now (by omega) (by omega)
  have hwn : wS G (Zf G A S0 now) := wS_Zf hW hw0 now
  rcases xix_cases x0 (n := min lg.2.2.2.1 64) (by omega) with ⟨ec0, hc0⟩ | ⟨k0, hk0, rfl, ec0⟩
  · skip
    refine xi_iload_n dX9_taken_0 rfl ?_
    refine xi_if_lt 24 dX9_taken_1 (by decide) (fun h1 => ?_) (fun h1 => ?_)
    · skip
      refine xi_iconst (v := (-1)) dX9_taken_24 rfl ?_
      refine xi_iret (v := (-1)) dX9_taken_25 rfl ?_
      have e : a_taken (G, S0, now, late, risk, A, L, sq, nl, rf, hr, lg, w, tp) x0 x1 = -1 := by simp only [a_taken, ec0]
      rw [e] at h
      exact h
    · skip
      refine xi_iload_n dX9_taken_4 rfl ?_
      refine xi_aload_n dX9_taken_5 rfl ?_
      refine xi_getR dX9_taken_6 fgX9_47 cc0 rfl ?_
      refine xi_callV [] [.int x0] dX9_taken_9 zX2_noted mlX9_318 cc17 rfl rfl rfl rfl rfl (Nat.le_of_ble_eq_true rfl) (Nat.le_of_ble_eq_true rfl) ⟨by decide, by decide⟩ ?_
      refine e_noted (n := lg.2.2.2.1) (by omega) hKE.2.2.2.1 ?_
      show WP _ _ 12 _ [.int (nI (min lg.2.2.2.1 64)), .int x0] _ _
      refine xi_icmp_ge 24 dX9_taken_12 (by decide) (fun h12 => ?_) (fun z => hc0.elim (fun q => absurd q h1) (fun q => absurd q z))
      refine xi_iconst (v := (-1)) dX9_taken_24 rfl ?_
      refine xi_iret (v := (-1)) dX9_taken_25 rfl ?_
      have e : a_taken (G, S0, now, late, risk, A, L, sq, nl, rf, hr, lg, w, tp) x0 x1 = -1 := by simp only [a_taken, ec0]
      rw [e] at h
      exact h
  rcases xix_cases x1 (n := 4) (by omega) with ⟨ec1, hc1⟩ | ⟨k1, hk1, rfl, ec1⟩
  · skip
    refine xi_iload_n dX9_taken_0 rfl ?_
    refine xn_if_lt k0 24 dX9_taken_1 (by decide) rfl (by omega) ?_
    refine xi_iload_n dX9_taken_4 rfl ?_
    refine xi_aload_n dX9_taken_5 rfl ?_
    refine xi_getR dX9_taken_6 fgX9_47 cc0 rfl ?_
    refine xi_callV [] [.int (nI k0)] dX9_taken_9 zX2_noted mlX9_318 cc17 rfl rfl rfl rfl rfl (Nat.le_of_ble_eq_true rfl) (Nat.le_of_ble_eq_true rfl) ⟨by decide, by decide⟩ ?_
    refine e_noted (n := lg.2.2.2.1) (by omega) hKE.2.2.2.1 ?_
    show WP _ _ 12 _ [.int (nI (min lg.2.2.2.1 64)), .int (nI k0)] _ _
    refine xn_icmp_ge k0 (min lg.2.2.2.1 64) 24 dX9_taken_12 (by decide) rfl rfl (by omega) (by omega) (fun z => absurd z (by omega)) (fun h12 => ?_)
    refine xi_iload_n dX9_taken_15 rfl ?_
    refine xi_if_lt 24 dX9_taken_16 (by decide) (fun h16 => ?_) (fun h16 => ?_)
    · skip
      refine xi_iconst (v := (-1)) dX9_taken_24 rfl ?_
      refine xi_iret (v := (-1)) dX9_taken_25 rfl ?_
      have e : a_taken (G, S0, now, late, risk, A, L, sq, nl, rf, hr, lg, w, tp) (nI k0) x1 = -1 := by simp only [a_taken, ec0, ec1]
      rw [e] at h
      exact h
    · skip
      refine xi_iload_n dX9_taken_19 rfl ?_
      refine xi_iconst (v := 3) dX9_taken_20 rfl ?_
      refine xi_icmp_le 26 dX9_taken_21 (by decide) (fun z => (at_rg (r := 3) (by omega) hc1 rfl).elim (fun q => absurd q h16) (fun q => absurd q (Int32.not_lt.mpr z))) (fun h21 => ?_)
      refine xi_iconst (v := (-1)) dX9_taken_24 rfl ?_
      refine xi_iret (v := (-1)) dX9_taken_25 rfl ?_
      have e : a_taken (G, S0, now, late, risk, A, L, sq, nl, rf, hr, lg, w, tp) (nI k0) x1 = -1 := by simp only [a_taken, ec0, ec1]
      rw [e] at h
      exact h
  refine xi_iload_n dX9_taken_0 rfl ?_
  refine xn_if_lt k0 24 dX9_taken_1 (by decide) rfl (by omega) ?_
  refine xi_iload_n dX9_taken_4 rfl ?_
  refine xi_aload_n dX9_taken_5 rfl ?_
  refine xi_getR dX9_taken_6 fgX9_47 cc0 rfl ?_
  refine xi_callV [] [.int (nI k0)] dX9_taken_9 zX2_noted mlX9_318 cc17 rfl rfl rfl rfl rfl (Nat.le_of_ble_eq_true rfl) (Nat.le_of_ble_eq_true rfl) ⟨by decide, by decide⟩ ?_
  refine e_noted (n := lg.2.2.2.1) (by omega) hKE.2.2.2.1 ?_
  show WP _ _ 12 _ [.int (nI (min lg.2.2.2.1 64)), .int (nI k0)] _ _
  refine xn_icmp_ge k0 (min lg.2.2.2.1 64) 24 dX9_taken_12 (by decide) rfl rfl (by omega) (by omega) (fun z => absurd z (by omega)) (fun h12 => ?_)
  refine xi_iload_n dX9_taken_15 rfl ?_
  refine xn_if_lt k1 24 dX9_taken_16 (by decide) rfl (by omega) ?_
  refine xi_iload_n dX9_taken_19 rfl ?_
  refine xi_iconst (v := 3) dX9_taken_20 rfl ?_
  refine xn_icmp_le k1 3 26 dX9_taken_21 (by decide) rfl rfl (by omega) (by omega) (fun h21 => ?_) (fun z => absurd z (by omega))
  refine xi_aload_n dX9_taken_26 rfl ?_
  refine xi_getR dX9_taken_27 fgX9_47 cc0 rfl ?_
  refine xi_getR dX9_taken_30 fgX9_321 cc17 rfl ?_
  refine xi_iload_n dX9_taken_33 rfl ?_
  refine xi_iconst (v := 4) dX9_taken_34 rfl ?_
  refine xat 35 rfl ?_
  refine xe_imul dX9_taken_35 (v := nI (k0 * 4)) (pk_mul k0 4) ?_
  refine xi_iload_n dX9_taken_36 rfl ?_
  refine xe_iadd dX9_taken_37 (v := nI (k0 * 4 + k1)) (nI_add (k0 * 4) k1) ?_
  refine xe_iald (v := (lg.2.2.2.2 (k0 * 4 + k1))) (k0 * 4 + k1) dX9_taken_38 cc18 (by decide) rfl (by omega) (hKE.2.2.2.2 _ (by omega)) ?_
  refine xi_iret (v := (lg.2.2.2.2 (k0 * 4 + k1))) dX9_taken_39 rfl ?_
  simp only [a_taken, ec0, ec1] at h
  rw [Nat.mul_comm 4 k0] at h
  exact h

set_option maxHeartbeats 4000000 in
set_option maxRecDepth 100000 in
theorem cl_back {X : xX} {M : xM} {Q : Option Value → xM → Prop} (hX : wX X) (hC : RepC X M) (x0 : Int32) (h : Q (some (.int (a_back X x0))) M) : WP shC mX9_back 0 [some (.ref 0), some (.int x0)] [] M Q := by
  obtain ⟨G, S0, now, late, risk, A, L, sq, nl, rf, hr, lg, w, tp⟩ := X
  obtain ⟨hW, hw0, wn, wl, wr, wA_, wsq, wnl, wmo, wtk, wwt, wtp, wO0, wB0⟩ := id hX
  obtain ⟨b1, b2, b3, b4, b5, b6, b7, b8, b9, wmap, wlink, wk0, wk1, b10, b11, wword⟩ := id hW
  have nb : nl ≤ 2000 := by rw [wnl]; exact mcnt_le 2000
  obtain ⟨hG, hKF, hKR, hL, hKE, hKS, hKW, hKT, hKM⟩ := id hC
  obtain ⟨hno, hla, hri, hnl, hrf, hhr⟩ := id hKM
  have hSn : CS G (Zf G A S0 now) M (61 + 10 * (now % 16)) := hKR.1 now (by omega) (by omega)
  have hwn : wS G (Zf G A S0 now) := wS_Zf hW hw0 now
  rcases xix_cases x0 (n := 4) (by omega) with ⟨ec0, hc0⟩ | ⟨k0, hk0, rfl, ec0⟩
  · skip
    refine xi_iload_n dX9_back_0 rfl ?_
    refine xi_tableOut 64 dX9_back_1 (by decide) (xt_bad (n := 4) (by decide) hc0 (by decide)) ?_
    refine xi_iconst (v := (-1)) dX9_back_64 rfl ?_
    refine xi_iret (v := (-1)) dX9_back_65 rfl ?_
    have e : a_back (G, S0, now, late, risk, A, L, sq, nl, rf, hr, lg, w, tp) x0 = -1 := by simp only [a_back, ec0]
    rw [e] at h
    exact h
  rcases (show k0 = 0 ∨ k0 = 1 ∨ k0 = 2 ∨ k0 = 3 by omega) with rfl | rfl | rfl | rfl
  · skip
    refine xi_iload_n dX9_back_0 rfl ?_
    refine xi_tableIn 32 0 dX9_back_1 (by decide) (by decide) rfl (by decide) ?_
    refine xi_aload_n dX9_back_32 rfl ?_
    refine xi_getR dX9_back_33 fgX9_47 cc0 rfl ?_
    refine xe_getI (v := nI lg.1) dX9_back_36 fgX9_324 cc17 rfl hKE.1 ?_
    refine xi_iret (v := nI lg.1) dX9_back_39 rfl ?_
    simp only [a_back, ec0] at h
    exact h
  · skip
    refine xi_iload_n dX9_back_0 rfl ?_
    refine xi_tableIn 40 1 dX9_back_1 (by decide) (by decide) rfl (by decide) ?_
    refine xi_aload_n dX9_back_40 rfl ?_
    refine xi_getR dX9_back_41 fgX9_47 cc0 rfl ?_
    refine xe_getI (v := nI lg.2.1) dX9_back_44 fgX9_327 cc17 rfl hKE.2.1 ?_
    refine xi_iret (v := nI lg.2.1) dX9_back_47 rfl ?_
    simp only [a_back, ec0] at h
    exact h
  · skip
    refine xi_iload_n dX9_back_0 rfl ?_
    refine xi_tableIn 48 2 dX9_back_1 (by decide) (by decide) rfl (by decide) ?_
    refine xi_aload_n dX9_back_48 rfl ?_
    refine xi_getR dX9_back_49 fgX9_47 cc0 rfl ?_
    refine xe_getI (v := nI lg.2.2.1) dX9_back_52 fgX9_330 cc17 rfl hKE.2.2.1 ?_
    refine xi_iret (v := nI lg.2.2.1) dX9_back_55 rfl ?_
    simp only [a_back, ec0] at h
    exact h
  · skip
    refine xi_iload_n dX9_back_0 rfl ?_
    refine xi_tableIn 56 3 dX9_back_1 (by decide) (by decide) rfl (by decide) ?_
    refine xi_aload_n dX9_back_56 rfl ?_
    refine xi_getR dX9_back_57 fgX9_47 cc0 rfl ?_
    refine xe_getI (v := nI lg.2.2.2.1) dX9_back_60 fgX9_333 cc17 rfl hKE.2.2.2.1 ?_
    refine xi_iret (v := nI lg.2.2.2.1) dX9_back_63 rfl ?_
    simp only [a_back, ec0] at h
    exact h

set_option maxHeartbeats 4000000 in
set_option maxRecDepth 100000 in
theorem cl_watch {X : xX} {M : xM} {Q : Option Value → xM → Prop} (hX : wX X) (hC : RepC X M) (x0 : Int32) (x1 : Int32) (x2 : Int32) (h : Q (some (.int (a_watch X x0 x1 x2))) M) : WP shC mX9_watch 0 [some (.ref 0), some (.int x0), some (.int x1), some (.int x2), none] [] M Q := by
  obtain ⟨G, S0, now, late, risk, A, L, sq, nl, rf, hr, lg, w, tp⟩ := X
  obtain ⟨hW, hw0, wn, wl, wr, wA_, wsq, wnl, wmo, wtk, wwt, wtp, wO0, wB0⟩ := id hX
  obtain ⟨b1, b2, b3, b4, b5, b6, b7, b8, b9, wmap, wlink, wk0, wk1, b10, b11, wword⟩ := id hW
  have nb : nl ≤ 2000 := by rw [wnl]; exact mcnt_le 2000
  obtain ⟨hG, hKF, hKR, hL, hKE, hKS, hKW, hKT, hKM⟩ := id hC
  obtain ⟨hno, hla, hri, hnl, hrf, hhr⟩ := id hKM
  have hSn : CS G (Zf G A S0 now) M (61 + 10 * (now % 16)) := hKR.1 now (by omega) (by omega)
  have hwn : wS G (Zf G A S0 now) := wS_Zf hW hw0 now
  rcases xix_cases x0 (n := gP G) (by omega) with ⟨ec0, hc0⟩ | ⟨k0, hk0, rfl, ec0⟩
  · skip
    refine xi_aload_n dX9_watch_0 rfl ?_
    refine xi_getR dX9_watch_1 fgX9_10 cc0 rfl ?_
    refine xi_iload_n dX9_watch_4 rfl ?_
    refine xi_callV [.int x0] [] dX9_watch_5 zX1_hasPlayer mlX9_200 cc1 rfl rfl rfl rfl rfl (Nat.le_of_ble_eq_true rfl) (Nat.le_of_ble_eq_true rfl) ⟨by decide, by decide⟩ ?_
    refine g_hasPF hW hG hc0 ?_
    show WP _ _ 8 _ [.int (xb false)] _ _
    refine xb_if_eq false 20 dX9_watch_8 (by decide) rfl (fun _ => ?_) (fun z => absurd z (by decide))
    refine xi_iconst (v := (-1)) dX9_watch_20 rfl ?_
    refine xi_iret (v := (-1)) dX9_watch_21 rfl ?_
    have e : a_watch (G, S0, now, late, risk, A, L, sq, nl, rf, hr, lg, w, tp) x0 x1 x2 = -1 := by simp only [a_watch, ec0]
    rw [e] at h
    exact h
  rcases xix_cases x1 (n := 2) (by omega) with ⟨ec1, hc1⟩ | ⟨k1, hk1, rfl, ec1⟩
  · skip
    refine xi_aload_n dX9_watch_0 rfl ?_
    refine xi_getR dX9_watch_1 fgX9_10 cc0 rfl ?_
    refine xi_iload_n dX9_watch_4 rfl ?_
    refine xi_callV [.int (nI k0)] [] dX9_watch_5 zX1_hasPlayer mlX9_200 cc1 rfl rfl rfl rfl rfl (Nat.le_of_ble_eq_true rfl) (Nat.le_of_ble_eq_true rfl) ⟨by decide, by decide⟩ ?_
    refine g_hasPT hW hG (k := k0) (by omega) ?_
    show WP _ _ 8 _ [.int (xb true)] _ _
    refine xb_if_eq true 20 dX9_watch_8 (by decide) rfl (fun z => absurd z (by decide)) (fun _ => ?_)
    refine xi_iload_n dX9_watch_11 rfl ?_
    refine xi_if_lt 20 dX9_watch_12 (by decide) (fun h12 => ?_) (fun h12 => ?_)
    · skip
      refine xi_iconst (v := (-1)) dX9_watch_20 rfl ?_
      refine xi_iret (v := (-1)) dX9_watch_21 rfl ?_
      have e : a_watch (G, S0, now, late, risk, A, L, sq, nl, rf, hr, lg, w, tp) (nI k0) x1 x2 = -1 := by simp only [a_watch, ec0, ec1]
      rw [e] at h
      exact h
    · skip
      refine xi_iload_n dX9_watch_15 rfl ?_
      refine xi_iconst (v := 1) dX9_watch_16 rfl ?_
      refine xi_icmp_le 22 dX9_watch_17 (by decide) (fun z => (at_rg (r := 1) (by omega) hc1 rfl).elim (fun q => absurd q h12) (fun q => absurd q (Int32.not_lt.mpr z))) (fun h17 => ?_)
      refine xi_iconst (v := (-1)) dX9_watch_20 rfl ?_
      refine xi_iret (v := (-1)) dX9_watch_21 rfl ?_
      have e : a_watch (G, S0, now, late, risk, A, L, sq, nl, rf, hr, lg, w, tp) (nI k0) x1 x2 = -1 := by simp only [a_watch, ec0, ec1]
      rw [e] at h
      exact h
  rcases (show k1 = 0 ∨ k1 = 1 by omega) with rfl | rfl
  · skip
    rcases xix_cases x2 (n := 4) (by omega) with ⟨ec2, hc2⟩ | ⟨k2, hk2, rfl, ec2⟩
    · skip
      refine xi_aload_n dX9_watch_0 rfl ?_
      refine xi_getR dX9_watch_1 fgX9_10 cc0 rfl ?_
      refine xi_iload_n dX9_watch_4 rfl ?_
      refine xi_callV [.int (nI k0)] [] dX9_watch_5 zX1_hasPlayer mlX9_200 cc1 rfl rfl rfl rfl rfl (Nat.le_of_ble_eq_true rfl) (Nat.le_of_ble_eq_true rfl) ⟨by decide, by decide⟩ ?_
      refine g_hasPT hW hG (k := k0) (by omega) ?_
      show WP _ _ 8 _ [.int (xb true)] _ _
      refine xb_if_eq true 20 dX9_watch_8 (by decide) rfl (fun z => absurd z (by decide)) (fun _ => ?_)
      refine xi_iload_n dX9_watch_11 rfl ?_
      refine xn_if_lt 0 20 dX9_watch_12 (by decide) rfl (by omega) ?_
      refine xi_iload_n dX9_watch_15 rfl ?_
      refine xi_iconst (v := 1) dX9_watch_16 rfl ?_
      refine xn_icmp_le 0 1 22 dX9_watch_17 (by decide) rfl rfl (by omega) (by omega) (fun h17 => ?_) (fun h17 => ?_)
      · skip
        refine xi_iload_n dX9_watch_22 rfl ?_
        refine xn_if_ne 0 38 dX9_watch_23 (by decide) rfl (by omega) (fun h23 => ?_) (fun h23 => ?_)
        · omega
        · skip
          refine xi_aload_n dX9_watch_26 rfl ?_
          refine xi_getR dX9_watch_27 fgX9_53 cc0 rfl ?_
          refine xi_iload_n dX9_watch_30 rfl ?_
          refine xe_aald5 (j := (23 + 5 * k0)) k0 dX9_watch_31 cc20 (by decide) rfl (by omega) (if_pos (by omega)) ?_
          refine xi_getR dX9_watch_32 fgX9_249 (suo (isSu_p (p := k0) (by omega))) rfl ?_
          refine xi_goto 47 dX9_watch_35 (by decide) ?_
          refine xi_astore (lv' := [some (.ref 0), some (.int (nI k0)), some (.int (nI 0)), some (.int x2), some (.ref ((23 + 5 * k0) + 1))]) dX9_watch_47 (by decide) rfl ?_
          refine xi_iload_n dX9_watch_49 rfl ?_
          refine xi_tableOut 104 dX9_watch_50 (by decide) (xt_bad (n := 4) (by decide) hc2 (by decide)) ?_
          refine xi_iconst (v := (-1)) dX9_watch_104 rfl ?_
          refine xi_iret (v := (-1)) dX9_watch_105 rfl ?_
          have e : a_watch (G, S0, now, late, risk, A, L, sq, nl, rf, hr, lg, w, tp) (nI k0) (nI 0) x2 = -1 := by simp only [a_watch, ec0, ec1, ec2]
          rw [e] at h
          exact h
      · omega
    rcases (show k2 = 0 ∨ k2 = 1 ∨ k2 = 2 ∨ k2 = 3 by omega) with rfl | rfl | rfl | rfl
    · skip
      refine xi_aload_n dX9_watch_0 rfl ?_
      refine xi_getR dX9_watch_1 fgX9_10 cc0 rfl ?_
      refine xi_iload_n dX9_watch_4 rfl ?_
      refine xi_callV [.int (nI k0)] [] dX9_watch_5 zX1_hasPlayer mlX9_200 cc1 rfl rfl rfl rfl rfl (Nat.le_of_ble_eq_true rfl) (Nat.le_of_ble_eq_true rfl) ⟨by decide, by decide⟩ ?_
      refine g_hasPT hW hG (k := k0) (by omega) ?_
      show WP _ _ 8 _ [.int (xb true)] _ _
      refine xb_if_eq true 20 dX9_watch_8 (by decide) rfl (fun z => absurd z (by decide)) (fun _ => ?_)
      refine xi_iload_n dX9_watch_11 rfl ?_
      refine xn_if_lt 0 20 dX9_watch_12 (by decide) rfl (by omega) ?_
      refine xi_iload_n dX9_watch_15 rfl ?_
      refine xi_iconst (v := 1) dX9_watch_16 rfl ?_
      refine xn_icmp_le 0 1 22 dX9_watch_17 (by decide) rfl rfl (by omega) (by omega) (fun h17 => ?_) (fun h17 => ?_)
      · skip
        refine xi_iload_n dX9_watch_22 rfl ?_
        refine xn_if_ne 0 38 dX9_watch_23 (by decide) rfl (by omega) (fun h23 => ?_) (fun h23 => ?_)
        · omega
        · skip
          refine xi_aload_n dX9_watch_26 rfl ?_
          refine xi_getR dX9_watch_27 fgX9_53 cc0 rfl ?_
          refine xi_iload_n dX9_watch_30 rfl ?_
          refine xe_aald5 (j := (23 + 5 * k0)) k0 dX9_watch_31 cc20 (by decide) rfl (by omega) (if_pos (by omega)) ?_
          refine xi_getR dX9_watch_32 fgX9_249 (suo (isSu_p (p := k0) (by omega))) rfl ?_
          refine xi_goto 47 dX9_watch_35 (by decide) ?_
          refine xi_astore (lv' := [some (.ref 0), some (.int (nI k0)), some (.int (nI 0)), some (.int (nI 0)), some (.ref ((23 + 5 * k0) + 1))]) dX9_watch_47 (by decide) rfl ?_
          refine xi_iload_n dX9_watch_49 rfl ?_
          refine xi_tableIn 80 0 dX9_watch_50 (by decide) (by decide) rfl (by decide) ?_
          refine xi_aload dX9_watch_80 rfl ?_
          refine xe_getI (v := nI (on (w.1 (2 * k0)))) dX9_watch_82 fgX9_339 (odo (su_o1 (isSu_p (p := k0) (by omega)))) rfl (hKW k0 (by omega)).1.2.1 ?_
          refine xi_iret (v := nI (on (w.1 (2 * k0)))) dX9_watch_85 rfl ?_
          simp only [a_watch, ec0, ec1, ec2, h17, h23] at h
          exact h
      · omega
    · skip
      refine xi_aload_n dX9_watch_0 rfl ?_
      refine xi_getR dX9_watch_1 fgX9_10 cc0 rfl ?_
      refine xi_iload_n dX9_watch_4 rfl ?_
      refine xi_callV [.int (nI k0)] [] dX9_watch_5 zX1_hasPlayer mlX9_200 cc1 rfl rfl rfl rfl rfl (Nat.le_of_ble_eq_true rfl) (Nat.le_of_ble_eq_true rfl) ⟨by decide, by decide⟩ ?_
      refine g_hasPT hW hG (k := k0) (by omega) ?_
      show WP _ _ 8 _ [.int (xb true)] _ _
      refine xb_if_eq true 20 dX9_watch_8 (by decide) rfl (fun z => absurd z (by decide)) (fun _ => ?_)
      refine xi_iload_n dX9_watch_11 rfl ?_
      refine xn_if_lt 0 20 dX9_watch_12 (by decide) rfl (by omega) ?_
      refine xi_iload_n dX9_watch_15 rfl ?_
      refine xi_iconst (v := 1) dX9_watch_16 rfl ?_
      refine xn_icmp_le 0 1 22 dX9_watch_17 (by decide) rfl rfl (by omega) (by omega) (fun h17 => ?_) (fun h17 => ?_)
      · skip
        refine xi_iload_n dX9_watch_22 rfl ?_
        refine xn_if_ne 0 38 dX9_watch_23 (by decide) rfl (by omega) (fun h23 => ?_) (fun h23 => ?_)
        · omega
        · skip
          refine xi_aload_n dX9_watch_26 rfl ?_
          refine xi_getR dX9_watch_27 fgX9_53 cc0 rfl ?_
          refine xi_iload_n dX9_watch_30 rfl ?_
          refine xe_aald5 (j := (23 + 5 * k0)) k0 dX9_watch_31 cc20 (by decide) rfl (by omega) (if_pos (by omega)) ?_
          refine xi_getR dX9_watch_32 fgX9_249 (suo (isSu_p (p := k0) (by omega))) rfl ?_
          refine xi_goto 47 dX9_watch_35 (by decide) ?_
          refine xi_astore (lv' := [some (.ref 0), some (.int (nI k0)), some (.int (nI 0)), some (.int (nI 1)), some (.ref ((23 + 5 * k0) + 1))]) dX9_watch_47 (by decide) rfl ?_
          refine xi_iload_n dX9_watch_49 rfl ?_
          refine xi_tableIn 86 1 dX9_watch_50 (by decide) (by decide) rfl (by decide) ?_
          refine xi_aload dX9_watch_86 rfl ?_
          refine xe_getI (v := nI (os (w.1 (2 * k0)))) dX9_watch_88 fgX9_342 (odo (su_o1 (isSu_p (p := k0) (by omega)))) rfl (hKW k0 (by omega)).1.2.2.1 ?_
          refine xi_iret (v := nI (os (w.1 (2 * k0)))) dX9_watch_91 rfl ?_
          simp only [a_watch, ec0, ec1, ec2, h17, h23] at h
          exact h
      · omega
    · skip
      refine xi_aload_n dX9_watch_0 rfl ?_
      refine xi_getR dX9_watch_1 fgX9_10 cc0 rfl ?_
      refine xi_iload_n dX9_watch_4 rfl ?_
      refine xi_callV [.int (nI k0)] [] dX9_watch_5 zX1_hasPlayer mlX9_200 cc1 rfl rfl rfl rfl rfl (Nat.le_of_ble_eq_true rfl) (Nat.le_of_ble_eq_true rfl) ⟨by decide, by decide⟩ ?_
      refine g_hasPT hW hG (k := k0) (by omega) ?_
      show WP _ _ 8 _ [.int (xb true)] _ _
      refine xb_if_eq true 20 dX9_watch_8 (by decide) rfl (fun z => absurd z (by decide)) (fun _ => ?_)
      refine xi_iload_n dX9_watch_11 rfl ?_
      refine xn_if_lt 0 20 dX9_watch_12 (by decide) rfl (by omega) ?_
      refine xi_iload_n dX9_watch_15 rfl ?_
      refine xi_iconst (v := 1) dX9_watch_16 rfl ?_
      refine xn_icmp_le 0 1 22 dX9_watch_17 (by decide) rfl rfl (by omega) (by omega) (fun h17 => ?_) (fun h17 => ?_)
      · skip
        refine xi_iload_n dX9_watch_22 rfl ?_
        refine xn_if_ne 0 38 dX9_watch_23 (by decide) rfl (by omega) (fun h23 => ?_) (fun h23 => ?_)
        · omega
        · skip
          refine xi_aload_n dX9_watch_26 rfl ?_
          refine xi_getR dX9_watch_27 fgX9_53 cc0 rfl ?_
          refine xi_iload_n dX9_watch_30 rfl ?_
          refine xe_aald5 (j := (23 + 5 * k0)) k0 dX9_watch_31 cc20 (by decide) rfl (by omega) (if_pos (by omega)) ?_
          refine xi_getR dX9_watch_32 fgX9_249 (suo (isSu_p (p := k0) (by omega))) rfl ?_
          refine xi_goto 47 dX9_watch_35 (by decide) ?_
          refine xi_astore (lv' := [some (.ref 0), some (.int (nI k0)), some (.int (nI 0)), some (.int (nI 2)), some (.ref ((23 + 5 * k0) + 1))]) dX9_watch_47 (by decide) rfl ?_
          refine xi_iload_n dX9_watch_49 rfl ?_
          refine xi_tableIn 92 2 dX9_watch_50 (by decide) (by decide) rfl (by decide) ?_
          refine xi_aload dX9_watch_92 rfl ?_
          refine xi_callV [] [] dX9_watch_94 zX4_tail mlX9_345 (odo (su_o1 (isSu_p (p := k0) (by omega)))) rfl rfl rfl rfl rfl (Nat.le_of_ble_eq_true rfl) (Nat.le_of_ble_eq_true rfl) ⟨by decide, by decide⟩ ?_
          refine o_tail (T := oT (w.1 (2 * k0))) (su_o1 (isSu_p (p := k0) (by omega))) (wwt.1 _).2.2.2.1 (hKW k0 (by omega)).1.1 (s := os (w.1 (2 * k0))) (by have q1 := (wwt.1 (2 * k0)).1; have q2 := (wwt.1 (2 * k0)).2.1; omega) (hKW k0 (by omega)).1.2.2.1 ?_
          show WP _ _ 97 _ [.int (nI (mtail (oT (w.1 (2 * k0))) (os (w.1 (2 * k0)))))] _ _
          refine xi_iret (v := nI (mtail (oT (w.1 (2 * k0))) (os (w.1 (2 * k0))))) dX9_watch_97 rfl ?_
          simp only [a_watch, ec0, ec1, ec2, h17, h23] at h
          exact h
      · omega
    · skip
      refine xi_aload_n dX9_watch_0 rfl ?_
      refine xi_getR dX9_watch_1 fgX9_10 cc0 rfl ?_
      refine xi_iload_n dX9_watch_4 rfl ?_
      refine xi_callV [.int (nI k0)] [] dX9_watch_5 zX1_hasPlayer mlX9_200 cc1 rfl rfl rfl rfl rfl (Nat.le_of_ble_eq_true rfl) (Nat.le_of_ble_eq_true rfl) ⟨by decide, by decide⟩ ?_
      refine g_hasPT hW hG (k := k0) (by omega) ?_
      show WP _ _ 8 _ [.int (xb true)] _ _
      refine xb_if_eq true 20 dX9_watch_8 (by decide) rfl (fun z => absurd z (by decide)) (fun _ => ?_)
      refine xi_iload_n dX9_watch_11 rfl ?_
      refine xn_if_lt 0 20 dX9_watch_12 (by decide) rfl (by omega) ?_
      refine xi_iload_n dX9_watch_15 rfl ?_
      refine xi_iconst (v := 1) dX9_watch_16 rfl ?_
      refine xn_icmp_le 0 1 22 dX9_watch_17 (by decide) rfl rfl (by omega) (by omega) (fun h17 => ?_) (fun h17 => ?_)
      · skip
        refine xi_iload_n dX9_watch_22 rfl ?_
        refine xn_if_ne 0 38 dX9_watch_23 (by decide) rfl (by omega) (fun h23 => ?_) (fun h23 => ?_)
        · omega
        · skip
          refine xi_aload_n dX9_watch_26 rfl ?_
          refine xi_getR dX9_watch_27 fgX9_53 cc0 rfl ?_
          refine xi_iload_n dX9_watch_30 rfl ?_
          refine xe_aald5 (j := (23 + 5 * k0)) k0 dX9_watch_31 cc20 (by decide) rfl (by omega) (if_pos (by omega)) ?_
          refine xi_getR dX9_watch_32 fgX9_249 (suo (isSu_p (p := k0) (by omega))) rfl ?_
          refine xi_goto 47 dX9_watch_35 (by decide) ?_
          refine xi_astore (lv' := [some (.ref 0), some (.int (nI k0)), some (.int (nI 0)), some (.int (nI 3)), some (.ref ((23 + 5 * k0) + 1))]) dX9_watch_47 (by decide) rfl ?_
          refine xi_iload_n dX9_watch_49 rfl ?_
          refine xi_tableIn 98 3 dX9_watch_50 (by decide) (by decide) rfl (by decide) ?_
          refine xi_aload dX9_watch_98 rfl ?_
          refine xe_getI (v := nI (om (w.1 (2 * k0)))) dX9_watch_100 fgX9_348 (odo (su_o1 (isSu_p (p := k0) (by omega)))) rfl (hKW k0 (by omega)).1.2.2.2 ?_
          refine xi_iret (v := nI (om (w.1 (2 * k0)))) dX9_watch_103 rfl ?_
          simp only [a_watch, ec0, ec1, ec2, h17, h23] at h
          exact h
      · omega
  · skip
    rcases xix_cases x2 (n := 4) (by omega) with ⟨ec2, hc2⟩ | ⟨k2, hk2, rfl, ec2⟩
    · skip
      refine xi_aload_n dX9_watch_0 rfl ?_
      refine xi_getR dX9_watch_1 fgX9_10 cc0 rfl ?_
      refine xi_iload_n dX9_watch_4 rfl ?_
      refine xi_callV [.int (nI k0)] [] dX9_watch_5 zX1_hasPlayer mlX9_200 cc1 rfl rfl rfl rfl rfl (Nat.le_of_ble_eq_true rfl) (Nat.le_of_ble_eq_true rfl) ⟨by decide, by decide⟩ ?_
      refine g_hasPT hW hG (k := k0) (by omega) ?_
      show WP _ _ 8 _ [.int (xb true)] _ _
      refine xb_if_eq true 20 dX9_watch_8 (by decide) rfl (fun z => absurd z (by decide)) (fun _ => ?_)
      refine xi_iload_n dX9_watch_11 rfl ?_
      refine xn_if_lt 1 20 dX9_watch_12 (by decide) rfl (by omega) ?_
      refine xi_iload_n dX9_watch_15 rfl ?_
      refine xi_iconst (v := 1) dX9_watch_16 rfl ?_
      refine xn_icmp_le 1 1 22 dX9_watch_17 (by decide) rfl rfl (by omega) (by omega) (fun h17 => ?_) (fun h17 => ?_)
      · skip
        refine xi_iload_n dX9_watch_22 rfl ?_
        refine xn_if_ne 1 38 dX9_watch_23 (by decide) rfl (by omega) (fun h23 => ?_) (fun h23 => ?_)
        · skip
          refine xi_aload_n dX9_watch_38 rfl ?_
          refine xi_getR dX9_watch_39 fgX9_53 cc0 rfl ?_
          refine xi_iload_n dX9_watch_42 rfl ?_
          refine xe_aald5 (j := (23 + 5 * k0)) k0 dX9_watch_43 cc20 (by decide) rfl (by omega) (if_pos (by omega)) ?_
          refine xi_getR dX9_watch_44 fgX9_336 (suo (isSu_p (p := k0) (by omega))) rfl ?_
          refine xi_astore (lv' := [some (.ref 0), some (.int (nI k0)), some (.int (nI 1)), some (.int x2), some (.ref ((23 + 5 * k0) + 3))]) dX9_watch_47 (by decide) rfl ?_
          refine xi_iload_n dX9_watch_49 rfl ?_
          refine xi_tableOut 104 dX9_watch_50 (by decide) (xt_bad (n := 4) (by decide) hc2 (by decide)) ?_
          refine xi_iconst (v := (-1)) dX9_watch_104 rfl ?_
          refine xi_iret (v := (-1)) dX9_watch_105 rfl ?_
          have e : a_watch (G, S0, now, late, risk, A, L, sq, nl, rf, hr, lg, w, tp) (nI k0) (nI 1) x2 = -1 := by simp only [a_watch, ec0, ec1, ec2]
          rw [e] at h
          exact h
        · omega
      · omega
    rcases (show k2 = 0 ∨ k2 = 1 ∨ k2 = 2 ∨ k2 = 3 by omega) with rfl | rfl | rfl | rfl
    · skip
      refine xi_aload_n dX9_watch_0 rfl ?_
      refine xi_getR dX9_watch_1 fgX9_10 cc0 rfl ?_
      refine xi_iload_n dX9_watch_4 rfl ?_
      refine xi_callV [.int (nI k0)] [] dX9_watch_5 zX1_hasPlayer mlX9_200 cc1 rfl rfl rfl rfl rfl (Nat.le_of_ble_eq_true rfl) (Nat.le_of_ble_eq_true rfl) ⟨by decide, by decide⟩ ?_
      refine g_hasPT hW hG (k := k0) (by omega) ?_
      show WP _ _ 8 _ [.int (xb true)] _ _
      refine xb_if_eq true 20 dX9_watch_8 (by decide) rfl (fun z => absurd z (by decide)) (fun _ => ?_)
      refine xi_iload_n dX9_watch_11 rfl ?_
      refine xn_if_lt 1 20 dX9_watch_12 (by decide) rfl (by omega) ?_
      refine xi_iload_n dX9_watch_15 rfl ?_
      refine xi_iconst (v := 1) dX9_watch_16 rfl ?_
      refine xn_icmp_le 1 1 22 dX9_watch_17 (by decide) rfl rfl (by omega) (by omega) (fun h17 => ?_) (fun h17 => ?_)
      · skip
        refine xi_iload_n dX9_watch_22 rfl ?_
        refine xn_if_ne 1 38 dX9_watch_23 (by decide) rfl (by omega) (fun h23 => ?_) (fun h23 => ?_)
        · skip
          refine xi_aload_n dX9_watch_38 rfl ?_
          refine xi_getR dX9_watch_39 fgX9_53 cc0 rfl ?_
          refine xi_iload_n dX9_watch_42 rfl ?_
          refine xe_aald5 (j := (23 + 5 * k0)) k0 dX9_watch_43 cc20 (by decide) rfl (by omega) (if_pos (by omega)) ?_
          refine xi_getR dX9_watch_44 fgX9_336 (suo (isSu_p (p := k0) (by omega))) rfl ?_
          refine xi_astore (lv' := [some (.ref 0), some (.int (nI k0)), some (.int (nI 1)), some (.int (nI 0)), some (.ref ((23 + 5 * k0) + 3))]) dX9_watch_47 (by decide) rfl ?_
          refine xi_iload_n dX9_watch_49 rfl ?_
          refine xi_tableIn 80 0 dX9_watch_50 (by decide) (by decide) rfl (by decide) ?_
          refine xi_aload dX9_watch_80 rfl ?_
          refine xe_getI (v := nI (on (w.1 (2 * k0 + 1)))) dX9_watch_82 fgX9_339 (odo (su_o3 (isSu_p (p := k0) (by omega)))) rfl (hKW k0 (by omega)).2.1.2.1 ?_
          refine xi_iret (v := nI (on (w.1 (2 * k0 + 1)))) dX9_watch_85 rfl ?_
          simp only [a_watch, ec0, ec1, ec2, h17, h23] at h
          exact h
        · omega
      · omega
    · skip
      refine xi_aload_n dX9_watch_0 rfl ?_
      refine xi_getR dX9_watch_1 fgX9_10 cc0 rfl ?_
      refine xi_iload_n dX9_watch_4 rfl ?_
      refine xi_callV [.int (nI k0)] [] dX9_watch_5 zX1_hasPlayer mlX9_200 cc1 rfl rfl rfl rfl rfl (Nat.le_of_ble_eq_true rfl) (Nat.le_of_ble_eq_true rfl) ⟨by decide, by decide⟩ ?_
      refine g_hasPT hW hG (k := k0) (by omega) ?_
      show WP _ _ 8 _ [.int (xb true)] _ _
      refine xb_if_eq true 20 dX9_watch_8 (by decide) rfl (fun z => absurd z (by decide)) (fun _ => ?_)
      refine xi_iload_n dX9_watch_11 rfl ?_
      refine xn_if_lt 1 20 dX9_watch_12 (by decide) rfl (by omega) ?_
      refine xi_iload_n dX9_watch_15 rfl ?_
      refine xi_iconst (v := 1) dX9_watch_16 rfl ?_
      refine xn_icmp_le 1 1 22 dX9_watch_17 (by decide) rfl rfl (by omega) (by omega) (fun h17 => ?_) (fun h17 => ?_)
      · skip
        refine xi_iload_n dX9_watch_22 rfl ?_
        refine xn_if_ne 1 38 dX9_watch_23 (by decide) rfl (by omega) (fun h23 => ?_) (fun h23 => ?_)
        · skip
          refine xi_aload_n dX9_watch_38 rfl ?_
          refine xi_getR dX9_watch_39 fgX9_53 cc0 rfl ?_
          refine xi_iload_n dX9_watch_42 rfl ?_
          refine xe_aald5 (j := (23 + 5 * k0)) k0 dX9_watch_43 cc20 (by decide) rfl (by omega) (if_pos (by omega)) ?_
          refine xi_getR dX9_watch_44 fgX9_336 (suo (isSu_p (p := k0) (by omega))) rfl ?_
          refine xi_astore (lv' := [some (.ref 0), some (.int (nI k0)), some (.int (nI 1)), some (.int (nI 1)), some (.ref ((23 + 5 * k0) + 3))]) dX9_watch_47 (by decide) rfl ?_
          refine xi_iload_n dX9_watch_49 rfl ?_
          refine xi_tableIn 86 1 dX9_watch_50 (by decide) (by decide) rfl (by decide) ?_
          refine xi_aload dX9_watch_86 rfl ?_
          refine xe_getI (v := nI (os (w.1 (2 * k0 + 1)))) dX9_watch_88 fgX9_342 (odo (su_o3 (isSu_p (p := k0) (by omega)))) rfl (hKW k0 (by omega)).2.1.2.2.1 ?_
          refine xi_iret (v := nI (os (w.1 (2 * k0 + 1)))) dX9_watch_91 rfl ?_
          simp only [a_watch, ec0, ec1, ec2, h17, h23] at h
          exact h
        · omega
      · omega
    · skip
      refine xi_aload_n dX9_watch_0 rfl ?_
      refine xi_getR dX9_watch_1 fgX9_10 cc0 rfl ?_
      refine xi_iload_n dX9_watch_4 rfl ?_
      refine xi_callV [.int (nI k0)] [] dX9_watch_5 zX1_hasPlayer mlX9_200 cc1 rfl rfl rfl rfl rfl (Nat.le_of_ble_eq_true rfl) (Nat.le_of_ble_eq_true rfl) ⟨by decide, by decide⟩ ?_
      refine g_hasPT hW hG (k := k0) (by omega) ?_
      show WP _ _ 8 _ [.int (xb true)] _ _
      refine xb_if_eq true 20 dX9_watch_8 (by decide) rfl (fun z => absurd z (by decide)) (fun _ => ?_)
      refine xi_iload_n dX9_watch_11 rfl ?_
      refine xn_if_lt 1 20 dX9_watch_12 (by decide) rfl (by omega) ?_
      refine xi_iload_n dX9_watch_15 rfl ?_
      refine xi_iconst (v := 1) dX9_watch_16 rfl ?_
      refine xn_icmp_le 1 1 22 dX9_watch_17 (by decide) rfl rfl (by omega) (by omega) (fun h17 => ?_) (fun h17 => ?_)
      · skip
        refine xi_iload_n dX9_watch_22 rfl ?_
        refine xn_if_ne 1 38 dX9_watch_23 (by decide) rfl (by omega) (fun h23 => ?_) (fun h23 => ?_)
        · skip
          refine xi_aload_n dX9_watch_38 rfl ?_
          refine xi_getR dX9_watch_39 fgX9_53 cc0 rfl ?_
          refine xi_iload_n dX9_watch_42 rfl ?_
          refine xe_aald5 (j := (23 + 5 * k0)) k0 dX9_watch_43 cc20 (by decide) rfl (by omega) (if_pos (by omega)) ?_
          refine xi_getR dX9_watch_44 fgX9_336 (suo (isSu_p (p := k0) (by omega))) rfl ?_
          refine xi_astore (lv' := [some (.ref 0), some (.int (nI k0)), some (.int (nI 1)), some (.int (nI 2)), some (.ref ((23 + 5 * k0) + 3))]) dX9_watch_47 (by decide) rfl ?_
          refine xi_iload_n dX9_watch_49 rfl ?_
          refine xi_tableIn 92 2 dX9_watch_50 (by decide) (by decide) rfl (by decide) ?_
          refine xi_aload dX9_watch_92 rfl ?_
          refine xi_callV [] [] dX9_watch_94 zX4_tail mlX9_345 (odo (su_o3 (isSu_p (p := k0) (by omega)))) rfl rfl rfl rfl rfl (Nat.le_of_ble_eq_true rfl) (Nat.le_of_ble_eq_true rfl) ⟨by decide, by decide⟩ ?_
          refine o_tail (T := oT (w.1 (2 * k0 + 1))) (su_o3 (isSu_p (p := k0) (by omega))) (wwt.1 _).2.2.2.1 (hKW k0 (by omega)).2.1.1 (s := os (w.1 (2 * k0 + 1))) (by have q1 := (wwt.1 (2 * k0 + 1)).1; have q2 := (wwt.1 (2 * k0 + 1)).2.1; omega) (hKW k0 (by omega)).2.1.2.2.1 ?_
          show WP _ _ 97 _ [.int (nI (mtail (oT (w.1 (2 * k0 + 1))) (os (w.1 (2 * k0 + 1)))))] _ _
          refine xi_iret (v := nI (mtail (oT (w.1 (2 * k0 + 1))) (os (w.1 (2 * k0 + 1))))) dX9_watch_97 rfl ?_
          simp only [a_watch, ec0, ec1, ec2, h17, h23] at h
          exact h
        · omega
      · omega
    · skip
      refine xi_aload_n dX9_watch_0 rfl ?_
      refine xi_getR dX9_watch_1 fgX9_10 cc0 rfl ?_
      refine xi_iload_n dX9_watch_4 rfl ?_
      refine xi_callV [.int (nI k0)] [] dX9_watch_5 zX1_hasPlayer mlX9_200 cc1 rfl rfl rfl rfl rfl (Nat.le_of_ble_eq_true rfl) (Nat.le_of_ble_eq_true rfl) ⟨by decide, by decide⟩ ?_
      refine g_hasPT hW hG (k := k0) (by omega) ?_
      show WP _ _ 8 _ [.int (xb true)] _ _
      refine xb_if_eq true 20 dX9_watch_8 (by decide) rfl (fun z => absurd z (by decide)) (fun _ => ?_)
      refine xi_iload_n dX9_watch_11 rfl ?_
      refine xn_if_lt 1 20 dX9_watch_12 (by decide) rfl (by omega) ?_
      refine xi_iload_n dX9_watch_15 rfl ?_
      refine xi_iconst (v := 1) dX9_watch_16 rfl ?_
      refine xn_icmp_le 1 1 22 dX9_watch_17 (by decide) rfl rfl (by omega) (by omega) (fun h17 => ?_) (fun h17 => ?_)
      · skip
        refine xi_iload_n dX9_watch_22 rfl ?_
        refine xn_if_ne 1 38 dX9_watch_23 (by decide) rfl (by omega) (fun h23 => ?_) (fun h23 => ?_)
        · skip
          refine xi_aload_n dX9_watch_38 rfl ?_
          refine xi_getR dX9_watch_39 fgX9_53 cc0 rfl ?_
          refine xi_iload_n dX9_watch_42 rfl ?_
          refine xe_aald5 (j := (23 + 5 * k0)) k0 dX9_watch_43 cc20 (by decide) rfl (by omega) (if_pos (by omega)) ?_
          refine xi_getR dX9_watch_44 fgX9_336 (suo (isSu_p (p := k0) (by omega))) rfl ?_
          refine xi_astore (lv' := [some (.ref 0), some (.int (nI k0)), some (.int (nI 1)), some (.int (nI 3)), some (.ref ((23 + 5 * k0) + 3))]) dX9_watch_47 (by decide) rfl ?_
          refine xi_iload_n dX9_watch_49 rfl ?_
          refine xi_tableIn 98 3 dX9_watch_50 (by decide) (by decide) rfl (by decide) ?_
          refine xi_aload dX9_watch_98 rfl ?_
          refine xe_getI (v := nI (om (w.1 (2 * k0 + 1)))) dX9_watch_100 fgX9_348 (odo (su_o3 (isSu_p (p := k0) (by omega)))) rfl (hKW k0 (by omega)).2.1.2.2.2 ?_
          refine xi_iret (v := nI (om (w.1 (2 * k0 + 1)))) dX9_watch_103 rfl ?_
          simp only [a_watch, ec0, ec1, ec2, h17, h23] at h
          exact h
        · omega
      · omega

set_option maxHeartbeats 4000000 in
set_option maxRecDepth 100000 in
theorem cl_fair {X : xX} {M : xM} {Q : Option Value → xM → Prop} (hX : wX X) (hC : RepC X M) (x0 : Int32) (x1 : Int32) (h : Q (some (.int (a_fair X x0 x1))) M) : WP shC mX9_fair 0 [some (.ref 0), some (.int x0), some (.int x1)] [] M Q := by
  obtain ⟨G, S0, now, late, risk, A, L, sq, nl, rf, hr, lg, w, tp⟩ := X
  obtain ⟨hW, hw0, wn, wl, wr, wA_, wsq, wnl, wmo, wtk, wwt, wtp, wO0, wB0⟩ := id hX
  obtain ⟨b1, b2, b3, b4, b5, b6, b7, b8, b9, wmap, wlink, wk0, wk1, b10, b11, wword⟩ := id hW
  have nb : nl ≤ 2000 := by rw [wnl]; exact mcnt_le 2000
  obtain ⟨hG, hKF, hKR, hL, hKE, hKS, hKW, hKT, hKM⟩ := id hC
  obtain ⟨hno, hla, hri, hnl, hrf, hhr⟩ := id hKM
  have hSn : CS G (Zf G A S0 now) M (61 + 10 * (now % 16)) := hKR.1 now (by omega) (by omega)
  have hwn : wS G (Zf G A S0 now) := wS_Zf hW hw0 now
  rcases xix_cases x0 (n := gP G) (by omega) with ⟨ec0, hc0⟩ | ⟨k0, hk0, rfl, ec0⟩
  · skip
    refine xi_aload_n dX9_fair_0 rfl ?_
    refine xi_getR dX9_fair_1 fgX9_10 cc0 rfl ?_
    refine xi_iload_n dX9_fair_4 rfl ?_
    refine xi_callV [.int x0] [] dX9_fair_5 zX1_hasPlayer mlX9_200 cc1 rfl rfl rfl rfl rfl (Nat.le_of_ble_eq_true rfl) (Nat.le_of_ble_eq_true rfl) ⟨by decide, by decide⟩ ?_
    refine g_hasPF hW hG hc0 ?_
    show WP _ _ 8 _ [.int (xb false)] _ _
    refine xb_if_eq false 20 dX9_fair_8 (by decide) rfl (fun _ => ?_) (fun z => absurd z (by decide))
    refine xi_iconst (v := (-1)) dX9_fair_20 rfl ?_
    refine xi_iret (v := (-1)) dX9_fair_21 rfl ?_
    have e : a_fair (G, S0, now, late, risk, A, L, sq, nl, rf, hr, lg, w, tp) x0 x1 = -1 := by simp only [a_fair, ec0]
    rw [e] at h
    exact h
  rcases xix_cases x1 (n := 2) (by omega) with ⟨ec1, hc1⟩ | ⟨k1, hk1, rfl, ec1⟩
  · skip
    refine xi_aload_n dX9_fair_0 rfl ?_
    refine xi_getR dX9_fair_1 fgX9_10 cc0 rfl ?_
    refine xi_iload_n dX9_fair_4 rfl ?_
    refine xi_callV [.int (nI k0)] [] dX9_fair_5 zX1_hasPlayer mlX9_200 cc1 rfl rfl rfl rfl rfl (Nat.le_of_ble_eq_true rfl) (Nat.le_of_ble_eq_true rfl) ⟨by decide, by decide⟩ ?_
    refine g_hasPT hW hG (k := k0) (by omega) ?_
    show WP _ _ 8 _ [.int (xb true)] _ _
    refine xb_if_eq true 20 dX9_fair_8 (by decide) rfl (fun z => absurd z (by decide)) (fun _ => ?_)
    refine xi_iload_n dX9_fair_11 rfl ?_
    refine xi_if_lt 20 dX9_fair_12 (by decide) (fun h12 => ?_) (fun h12 => ?_)
    · skip
      refine xi_iconst (v := (-1)) dX9_fair_20 rfl ?_
      refine xi_iret (v := (-1)) dX9_fair_21 rfl ?_
      have e : a_fair (G, S0, now, late, risk, A, L, sq, nl, rf, hr, lg, w, tp) (nI k0) x1 = -1 := by simp only [a_fair, ec0, ec1]
      rw [e] at h
      exact h
    · skip
      refine xi_iload_n dX9_fair_15 rfl ?_
      refine xi_iconst (v := 1) dX9_fair_16 rfl ?_
      refine xi_icmp_le 22 dX9_fair_17 (by decide) (fun z => (at_rg (r := 1) (by omega) hc1 rfl).elim (fun q => absurd q h12) (fun q => absurd q (Int32.not_lt.mpr z))) (fun h17 => ?_)
      refine xi_iconst (v := (-1)) dX9_fair_20 rfl ?_
      refine xi_iret (v := (-1)) dX9_fair_21 rfl ?_
      have e : a_fair (G, S0, now, late, risk, A, L, sq, nl, rf, hr, lg, w, tp) (nI k0) x1 = -1 := by simp only [a_fair, ec0, ec1]
      rw [e] at h
      exact h
  rcases (show k1 = 0 ∨ k1 = 1 by omega) with rfl | rfl
  · skip
    refine xi_aload_n dX9_fair_0 rfl ?_
    refine xi_getR dX9_fair_1 fgX9_10 cc0 rfl ?_
    refine xi_iload_n dX9_fair_4 rfl ?_
    refine xi_callV [.int (nI k0)] [] dX9_fair_5 zX1_hasPlayer mlX9_200 cc1 rfl rfl rfl rfl rfl (Nat.le_of_ble_eq_true rfl) (Nat.le_of_ble_eq_true rfl) ⟨by decide, by decide⟩ ?_
    refine g_hasPT hW hG (k := k0) (by omega) ?_
    show WP _ _ 8 _ [.int (xb true)] _ _
    refine xb_if_eq true 20 dX9_fair_8 (by decide) rfl (fun z => absurd z (by decide)) (fun _ => ?_)
    refine xi_iload_n dX9_fair_11 rfl ?_
    refine xn_if_lt 0 20 dX9_fair_12 (by decide) rfl (by omega) ?_
    refine xi_iload_n dX9_fair_15 rfl ?_
    refine xi_iconst (v := 1) dX9_fair_16 rfl ?_
    refine xn_icmp_le 0 1 22 dX9_fair_17 (by decide) rfl rfl (by omega) (by omega) (fun h17 => ?_) (fun h17 => ?_)
    · skip
      refine xi_iload_n dX9_fair_22 rfl ?_
      refine xi_iconst (v := 1) dX9_fair_23 rfl ?_
      refine xn_icmp_ne 0 1 39 dX9_fair_24 (by decide) rfl rfl (by omega) (by omega) (fun h24 => ?_) (fun h24 => ?_)
      · skip
        refine xi_aload_n dX9_fair_39 rfl ?_
        refine xi_getR dX9_fair_40 fgX9_53 cc0 rfl ?_
        refine xi_iload_n dX9_fair_43 rfl ?_
        refine xe_aald5 (j := (23 + 5 * k0)) k0 dX9_fair_44 cc20 (by decide) rfl (by omega) (if_pos (by omega)) ?_
        refine xe_getI (v := nI (mfair (Hx G A S0 now) L k0 false (now - late))) dX9_fair_45 fgX9_354 (suo (isSu_p (p := k0) (by omega))) rfl (hKW k0 (by omega)).2.2.1 ?_
        refine xi_iret (v := nI (mfair (Hx G A S0 now) L k0 false (now - late))) dX9_fair_48 rfl ?_
        simp only [a_fair, ec0, ec1, h17, h24] at h
        exact h
      · omega
    · omega
  · skip
    refine xi_aload_n dX9_fair_0 rfl ?_
    refine xi_getR dX9_fair_1 fgX9_10 cc0 rfl ?_
    refine xi_iload_n dX9_fair_4 rfl ?_
    refine xi_callV [.int (nI k0)] [] dX9_fair_5 zX1_hasPlayer mlX9_200 cc1 rfl rfl rfl rfl rfl (Nat.le_of_ble_eq_true rfl) (Nat.le_of_ble_eq_true rfl) ⟨by decide, by decide⟩ ?_
    refine g_hasPT hW hG (k := k0) (by omega) ?_
    show WP _ _ 8 _ [.int (xb true)] _ _
    refine xb_if_eq true 20 dX9_fair_8 (by decide) rfl (fun z => absurd z (by decide)) (fun _ => ?_)
    refine xi_iload_n dX9_fair_11 rfl ?_
    refine xn_if_lt 1 20 dX9_fair_12 (by decide) rfl (by omega) ?_
    refine xi_iload_n dX9_fair_15 rfl ?_
    refine xi_iconst (v := 1) dX9_fair_16 rfl ?_
    refine xn_icmp_le 1 1 22 dX9_fair_17 (by decide) rfl rfl (by omega) (by omega) (fun h17 => ?_) (fun h17 => ?_)
    · skip
      refine xi_iload_n dX9_fair_22 rfl ?_
      refine xi_iconst (v := 1) dX9_fair_23 rfl ?_
      refine xn_icmp_ne 1 1 39 dX9_fair_24 (by decide) rfl rfl (by omega) (by omega) (fun h24 => ?_) (fun h24 => ?_)
      · omega
      · skip
        refine xi_aload_n dX9_fair_27 rfl ?_
        refine xi_getR dX9_fair_28 fgX9_53 cc0 rfl ?_
        refine xi_iload_n dX9_fair_31 rfl ?_
        refine xe_aald5 (j := (23 + 5 * k0)) k0 dX9_fair_32 cc20 (by decide) rfl (by omega) (if_pos (by omega)) ?_
        refine xe_getI (v := nI (mfair (Hx G A S0 now) L k0 true (now - late))) dX9_fair_33 fgX9_351 (suo (isSu_p (p := k0) (by omega))) rfl (hKW k0 (by omega)).2.2.2.1 ?_
        refine xi_goto 48 dX9_fair_36 (by decide) ?_
        refine xi_iret (v := nI (mfair (Hx G A S0 now) L k0 true (now - late))) dX9_fair_48 rfl ?_
        simp only [a_fair, ec0, ec1, h17, h24] at h
        exact h
    · omega

set_option maxHeartbeats 4000000 in
set_option maxRecDepth 100000 in
theorem cl_count {X : xX} {M : xM} {Q : Option Value → xM → Prop} (hX : wX X) (hC : RepC X M) (x0 : Int32) (h : Q (some (.int (a_count X x0))) M) : WP shC mX9_count 0 [some (.ref 0), some (.int x0)] [] M Q := by
  obtain ⟨G, S0, now, late, risk, A, L, sq, nl, rf, hr, lg, w, tp⟩ := X
  obtain ⟨hW, hw0, wn, wl, wr, wA_, wsq, wnl, wmo, wtk, wwt, wtp, wO0, wB0⟩ := id hX
  obtain ⟨b1, b2, b3, b4, b5, b6, b7, b8, b9, wmap, wlink, wk0, wk1, b10, b11, wword⟩ := id hW
  have nb : nl ≤ 2000 := by rw [wnl]; exact mcnt_le 2000
  obtain ⟨hG, hKF, hKR, hL, hKE, hKS, hKW, hKT, hKM⟩ := id hC
  obtain ⟨hno, hla, hri, hnl, hrf, hhr⟩ := id hKM
  have hSn : CS G (Zf G A S0 now) M (61 + 10 * (now % 16)) := hKR.1 now (by omega) (by omega)
  have hwn : wS G (Zf G A S0 now) := wS_Zf hW hw0 now
  rcases xix_cases x0 (n := 11) (by omega) with ⟨ec0, hc0⟩ | ⟨k0, hk0, rfl, ec0⟩
  · skip
    refine xi_iload_n dX9_count_0 rfl ?_
    refine xi_tableOut 130 dX9_count_1 (by decide) (xt_bad (n := 11) (by decide) hc0 (by decide)) ?_
    refine xi_iconst (v := (-1)) dX9_count_130 rfl ?_
    refine xi_iret (v := (-1)) dX9_count_131 rfl ?_
    have e : a_count (G, S0, now, late, risk, A, L, sq, nl, rf, hr, lg, w, tp) x0 = -1 := by simp only [a_count, ec0]
    rw [e] at h
    exact h
  rcases (show k0 = 0 ∨ k0 = 1 ∨ k0 = 2 ∨ k0 = 3 ∨ k0 = 4 ∨ k0 = 5 ∨ k0 = 6 ∨ k0 = 7 ∨ k0 = 8 ∨ k0 = 9 ∨ k0 = 10 by omega) with rfl | rfl | rfl | rfl | rfl | rfl | rfl | rfl | rfl | rfl | rfl
  · skip
    refine xi_iload_n dX9_count_0 rfl ?_
    refine xi_tableIn 60 0 dX9_count_1 (by decide) (by decide) rfl (by decide) ?_
    refine xi_aload_n dX9_count_60 rfl ?_
    refine xi_getR dX9_count_61 fgX9_10 cc0 rfl ?_
    refine xe_getI (v := nI (gw G)) dX9_count_64 fgX9_357 cc1 rfl (cg_w hG) ?_
    refine xi_iret (v := nI (gw G)) dX9_count_67 rfl ?_
    simp only [a_count, ec0] at h
    exact h
  · skip
    refine xi_iload_n dX9_count_0 rfl ?_
    refine xi_tableIn 68 1 dX9_count_1 (by decide) (by decide) rfl (by decide) ?_
    refine xi_aload_n dX9_count_68 rfl ?_
    refine xi_getR dX9_count_69 fgX9_10 cc0 rfl ?_
    refine xe_getI (v := nI (gh G)) dX9_count_72 fgX9_360 cc1 rfl (cg_h hG) ?_
    refine xi_iret (v := nI (gh G)) dX9_count_75 rfl ?_
    simp only [a_count, ec0] at h
    exact h
  · skip
    refine xi_iload_n dX9_count_0 rfl ?_
    refine xi_tableIn 76 2 dX9_count_1 (by decide) (by decide) rfl (by decide) ?_
    refine xi_aload_n dX9_count_76 rfl ?_
    refine xi_getR dX9_count_77 fgX9_10 cc0 rfl ?_
    refine xe_getI (v := nI (gP G)) dX9_count_80 fgX9_226 cc1 rfl (cg_P hG) ?_
    refine xi_iret (v := nI (gP G)) dX9_count_83 rfl ?_
    simp only [a_count, ec0] at h
    exact h
  · skip
    refine xi_iload_n dX9_count_0 rfl ?_
    refine xi_tableIn 84 3 dX9_count_1 (by decide) (by decide) rfl (by decide) ?_
    refine xi_aload_n dX9_count_84 rfl ?_
    refine xi_getR dX9_count_85 fgX9_10 cc0 rfl ?_
    refine xe_getI (v := nI (gT G)) dX9_count_88 fgX9_150 cc1 rfl (cg_T hG) ?_
    refine xi_iret (v := nI (gT G)) dX9_count_91 rfl ?_
    simp only [a_count, ec0] at h
    exact h
  · skip
    refine xi_iload_n dX9_count_0 rfl ?_
    refine xi_tableIn 92 4 dX9_count_1 (by decide) (by decide) rfl (by decide) ?_
    refine xi_aload_n dX9_count_92 rfl ?_
    refine xi_getR dX9_count_93 fgX9_10 cc0 rfl ?_
    refine xe_getI (v := nI (gD G)) dX9_count_96 fgX9_130 cc1 rfl (cg_D hG) ?_
    refine xi_iret (v := nI (gD G)) dX9_count_99 rfl ?_
    simp only [a_count, ec0] at h
    exact h
  · skip
    refine xi_iload_n dX9_count_0 rfl ?_
    refine xi_tableIn 100 5 dX9_count_1 (by decide) (by decide) rfl (by decide) ?_
    refine xi_aload_n dX9_count_100 rfl ?_
    refine xe_getI (v := nI now) dX9_count_101 fgX9_98 cc0 rfl hno ?_
    refine xi_iret (v := nI now) dX9_count_104 rfl ?_
    simp only [a_count, ec0] at h
    exact h
  · skip
    refine xi_iload_n dX9_count_0 rfl ?_
    refine xi_tableIn 105 6 dX9_count_1 (by decide) (by decide) rfl (by decide) ?_
    refine xi_aload_n dX9_count_105 rfl ?_
    refine xe_getI (v := nI late) dX9_count_106 fgX9_101 cc0 rfl hla ?_
    refine xi_iret (v := nI late) dX9_count_109 rfl ?_
    simp only [a_count, ec0] at h
    exact h
  · skip
    refine xi_iload_n dX9_count_0 rfl ?_
    refine xi_tableIn 110 7 dX9_count_1 (by decide) (by decide) rfl (by decide) ?_
    refine xi_aload_n dX9_count_110 rfl ?_
    refine xe_getI (v := nI risk) dX9_count_111 fgX9_104 cc0 rfl hri ?_
    refine xi_iret (v := nI risk) dX9_count_114 rfl ?_
    simp only [a_count, ec0] at h
    exact h
  · skip
    refine xi_iload_n dX9_count_0 rfl ?_
    refine xi_tableIn 115 8 dX9_count_1 (by decide) (by decide) rfl (by decide) ?_
    refine xi_aload_n dX9_count_115 rfl ?_
    refine xe_getI (v := nI nl) dX9_count_116 fgX9_107 cc0 rfl hnl ?_
    refine xi_iret (v := nI nl) dX9_count_119 rfl ?_
    simp only [a_count, ec0] at h
    exact h
  · skip
    refine xi_iload_n dX9_count_0 rfl ?_
    refine xi_tableIn 120 9 dX9_count_1 (by decide) (by decide) rfl (by decide) ?_
    refine xi_aload_n dX9_count_120 rfl ?_
    refine xe_getI (v := rf) dX9_count_121 fgX9_110 cc0 rfl hrf ?_
    refine xi_iret (v := rf) dX9_count_124 rfl ?_
    simp only [a_count, ec0] at h
    exact h
  · skip
    refine xi_iload_n dX9_count_0 rfl ?_
    refine xi_tableIn 125 10 dX9_count_1 (by decide) (by decide) rfl (by decide) ?_
    refine xi_aload_n dX9_count_125 rfl ?_
    refine xe_getI (v := hr) dX9_count_126 fgX9_113 cc0 rfl hhr ?_
    refine xi_iret (v := hr) dX9_count_129 rfl ?_
    simp only [a_count, ec0] at h
    exact h

