theorem xL_icmp_ne {sh : List xSh} {Y : xY} {pc : Nat} {lv : List (Option Value)} {st : List Value} {M : xM} {Q : Option Value → xM → Prop} {x y : Int32} {off : Int} {a c : Bool} (tgt : Nat) (hd : decode Y.2.1 pc = .ok (.if_icmp .ne off, 3)) (ht : (pc : Int) + off = (tgt : Int)) (hx : x = xb a) (hy : y = xb c) (kt : ¬ a = c → WP sh Y tgt lv st M Q) (kf : a = c → WP sh Y (pc + 3) lv st M Q) : WP sh Y pc lv (.int y :: .int x :: st) M Q := by
  subst hx hy
  refine xi_icmp_ne tgt hd ht (fun h => kt (fun e => h (by rw [e]))) (fun h => kf ?_)
  revert h
  cases a <;> cases c <;> decide
theorem at_ne {x : Int32} {n j : Nat} (hj : j < n) (hn : n < 2 ^ 31) (hc : x < 0 ∨ nI n ≤ x) : ¬ x = nI j := fun e => by
  subst e
  rcases hc with h | h
  · exact nI_pos (by omega) h
  · exact nI_ge hj hn h

set_option maxHeartbeats 4000000 in
set_option maxRecDepth 100000 in
theorem o_nearT {G : xG} {S0 : xS} {now late risk : Nat} {A : Nat → Nat} {L : Nat → Bool} {sq : Nat → Nat} {nl : Nat} {rf hr : Int32} {lg : xE2} {w : xw} {tp : Nat → xT} {M : xM} {Q : Option Value → xM → Prop} (hX : wX (G, S0, now, late, risk, A, L, sq, nl, rf, hr, lg, w, tp)) (hC : RepM (G, S0, now, late, risk, A, L, sq, nl, rf, hr, lg, w, tp) M) {k : Nat} (hk : k < now + 1) (h : Q (some (.int (xb (decide (now ≤ k + 8))))) M) : WP shM mX10_isNear 0 [some (.ref 0), some (.int (nI k))] [] M Q := by
  obtain ⟨hW, hw0, wn, wl, wr, wA_, wsq, wnl, wmo, wtk, wwt, wtp, wO0, wB0⟩ := id hX
  obtain ⟨b1, b2, b3, b4, b5, b6, b7, b8, b9, wmap, wlink, wk0, wk1, b10, b11, wword⟩ := id hW
  have nb : nl ≤ 2000 := by rw [wnl]; exact mcnt_le 2000
  obtain ⟨hG, hNS, hNA, hNL, hNH, hNE, hNQ, hNW, hNT, hNM⟩ := id hC
  obtain ⟨hno, hla, hri, hnl, hrf, hhr⟩ := id hNM
  obtain ⟨s, es⟩ : ∃ s, s = 112 * now := ⟨_, rfl⟩
  have hs : s ≤ 56000 := by omega
  have hS : RM G (Zf G A S0 now) M s := by rw [es]; exact hNS.1 now (Nat.le_refl _)
  have hw : wS G (Zf G A S0 now) := wS_Zf hW hw0 now
  refine xi_iload_n dX10_isNear_0 rfl ?_
  refine xn_if_lt k 26 dX10_isNear_1 (by decide) rfl (by omega) ?_
  refine xi_iload_n dX10_isNear_4 rfl ?_
  refine xi_aload_n dX10_isNear_5 rfl ?_
  refine xe_getI (v := nI now) dX10_isNear_6 fgX10_110 mm0 rfl hno ?_
  refine xi_bipush (v := 8) dX10_isNear_9 (by decide) ?_
  refine xi_isub dX10_isNear_11 ?_
  refine xi_aload_n dX10_isNear_12 rfl ?_
  refine xe_getI (v := nI now) dX10_isNear_13 fgX10_110 mm0 rfl hno ?_
  refine xi_callS [.int (nI k), .int (nI now - 8), .int (nI now)] [] dX10_isNear_16 zX10_in mlX10_137 rfl rfl rfl (Nat.le_of_ble_eq_true rfl) (Nat.le_of_ble_eq_true rfl) ⟨by decide, by decide⟩ ?_
  refine n_inS (k := k) (n := now) (c := 8) (r := now) (by omega) (by omega) (by omega) (by omega) ?_
  show WP _ _ 19 _ [.int (xb (decide (now ≤ k + 8 ∧ k ≤ now)))] _ _
  refine xb_if_eq (decide (now ≤ k + 8 ∧ k ≤ now)) 26 dX10_isNear_19 (by decide) rfl (fun h19 => ?_) (fun h19 => ?_)
  · skip
    refine xi_iconst (v := 0) dX10_isNear_26 rfl ?_
    refine xi_zret (v := 0) dX10_isNear_27 rfl (by decide) ?_
    have z := of_decide_eq_false h19
    rw [show decide (now ≤ k + 8) = false by simp; omega] at h
    exact h
  · skip
    refine xi_iconst (v := 1) dX10_isNear_22 rfl ?_
    refine xi_goto 27 dX10_isNear_23 (by decide) ?_
    refine xi_zret (v := 1) dX10_isNear_27 rfl (by decide) ?_
    have z := of_decide_eq_true h19
    rw [show decide (now ≤ k + 8) = true by simp; omega] at h
    exact h

set_option maxHeartbeats 4000000 in
set_option maxRecDepth 100000 in
theorem o_nearF {G : xG} {S0 : xS} {now late risk : Nat} {A : Nat → Nat} {L : Nat → Bool} {sq : Nat → Nat} {nl : Nat} {rf hr : Int32} {lg : xE2} {w : xw} {tp : Nat → xT} {M : xM} {Q : Option Value → xM → Prop} (hX : wX (G, S0, now, late, risk, A, L, sq, nl, rf, hr, lg, w, tp)) (hC : RepM (G, S0, now, late, risk, A, L, sq, nl, rf, hr, lg, w, tp) M) {x : Int32} (hc : x < 0 ∨ nI (now + 1) ≤ x) (h : Q (some (.int (xb false))) M) : WP shM mX10_isNear 0 [some (.ref 0), some (.int x)] [] M Q := by
  obtain ⟨hW, hw0, wn, wl, wr, wA_, wsq, wnl, wmo, wtk, wwt, wtp, wO0, wB0⟩ := id hX
  obtain ⟨b1, b2, b3, b4, b5, b6, b7, b8, b9, wmap, wlink, wk0, wk1, b10, b11, wword⟩ := id hW
  have nb : nl ≤ 2000 := by rw [wnl]; exact mcnt_le 2000
  obtain ⟨hG, hNS, hNA, hNL, hNH, hNE, hNQ, hNW, hNT, hNM⟩ := id hC
  obtain ⟨hno, hla, hri, hnl, hrf, hhr⟩ := id hNM
  obtain ⟨s, es⟩ : ∃ s, s = 112 * now := ⟨_, rfl⟩
  have hs : s ≤ 56000 := by omega
  have hS : RM G (Zf G A S0 now) M s := by rw [es]; exact hNS.1 now (Nat.le_refl _)
  have hw : wS G (Zf G A S0 now) := wS_Zf hW hw0 now
  refine xi_iload_n dX10_isNear_0 rfl ?_
  refine xi_if_lt 26 dX10_isNear_1 (by decide) (fun h1 => ?_) (fun h1 => ?_)
  · skip
    refine xi_iconst (v := 0) dX10_isNear_26 rfl ?_
    refine xi_zret (v := 0) dX10_isNear_27 rfl (by decide) ?_
    exact h
  · skip
    refine xi_iload_n dX10_isNear_4 rfl ?_
    refine xi_aload_n dX10_isNear_5 rfl ?_
    refine xe_getI (v := nI now) dX10_isNear_6 fgX10_110 mm0 rfl hno ?_
    refine xi_bipush (v := 8) dX10_isNear_9 (by decide) ?_
    refine xi_isub dX10_isNear_11 ?_
    refine xi_aload_n dX10_isNear_12 rfl ?_
    refine xe_getI (v := nI now) dX10_isNear_13 fgX10_110 mm0 rfl hno ?_
    refine xi_callS [.int x, .int (nI now - 8), .int (nI now)] [] dX10_isNear_16 zX10_in mlX10_137 rfl rfl rfl (Nat.le_of_ble_eq_true rfl) (Nat.le_of_ble_eq_true rfl) ⟨by decide, by decide⟩ ?_
    refine n_in ?_
    rw [decide_eq_false (fun q => hc.elim (fun z => absurd z h1) (fun z => absurd (Int32.le_trans z q.2) (nI_ge (by omega) (by omega))))]
    show WP _ _ 19 _ [.int (xb false)] _ _
    refine xb_if_eq false 26 dX10_isNear_19 (by decide) rfl (fun _ => ?_) (fun z => absurd z (by decide))
    refine xi_iconst (v := 0) dX10_isNear_26 rfl ?_
    refine xi_zret (v := 0) dX10_isNear_27 rfl (by decide) ?_
    exact h

set_option maxHeartbeats 4000000 in
set_option maxRecDepth 100000 in
theorem mo_body {X : xX} {M : xM} {Q : Option Value → xM → Prop} (hX : wX X) (hC : RepM X M) (x0 : Int32) (x1 : Int32) (h : Q (some (.int (a_body X x0 x1))) M) : WP shM mX10_body 0 [some (.ref 0), some (.int x0), some (.int x1), none] [] M Q := by
  obtain ⟨G, S0, now, late, risk, A, L, sq, nl, rf, hr, lg, w, tp⟩ := X
  obtain ⟨hW, hw0, wn, wl, wr, wA_, wsq, wnl, wmo, wtk, wwt, wtp, wO0, wB0⟩ := id hX
  obtain ⟨b1, b2, b3, b4, b5, b6, b7, b8, b9, wmap, wlink, wk0, wk1, b10, b11, wword⟩ := id hW
  have nb : nl ≤ 2000 := by rw [wnl]; exact mcnt_le 2000
  obtain ⟨hG, hNS, hNA, hNL, hNH, hNE, hNQ, hNW, hNT, hNM⟩ := id hC
  obtain ⟨hno, hla, hri, hnl, hrf, hhr⟩ := id hNM
  obtain ⟨s, es⟩ : ∃ s, s = 112 * now := ⟨_, rfl⟩
  have hs : s ≤ 56000 := by omega
  have hS : RM G (Zf G A S0 now) M s := by rw [es]; exact hNS.1 now (Nat.le_refl _)
  have hw : wS G (Zf G A S0 now) := wS_Zf hW hw0 now
  rcases xix_cases x0 (n := gP G) (by omega) with ⟨ec0, hc0⟩ | ⟨k0, hk0, rfl, ec0⟩
  · skip
    refine xi_aload_n dX10_body_0 rfl ?_
    refine xi_iload_n dX10_body_1 rfl ?_
    refine xi_callV [.int x0] [] dX10_body_2 zX10_isPlayer mlX10_272 mm0 rfl rfl rfl rfl rfl (Nat.le_of_ble_eq_true rfl) (Nat.le_of_ble_eq_true rfl) ⟨by decide, by decide⟩ ?_
    refine n_isPF hW hG hc0 ?_
    show WP _ _ 5 _ [.int (xb false)] _ _
    refine xb_if_eq false 18 dX10_body_5 (by decide) rfl (fun _ => ?_) (fun z => absurd z (by decide))
    refine xi_iconst (v := (-1)) dX10_body_18 rfl ?_
    refine xi_iret (v := (-1)) dX10_body_19 rfl ?_
    have e : a_body (G, S0, now, late, risk, A, L, sq, nl, rf, hr, lg, w, tp) x0 x1 = -1 := by simp only [a_body, ec0]
    rw [e] at h
    exact h
  rcases xix_cases x1 (n := 7) (by omega) with ⟨ec1, hc1⟩ | ⟨k1, hk1, rfl, ec1⟩
  · skip
    refine xi_aload_n dX10_body_0 rfl ?_
    refine xi_iload_n dX10_body_1 rfl ?_
    refine xi_callV [.int (nI k0)] [] dX10_body_2 zX10_isPlayer mlX10_272 mm0 rfl rfl rfl rfl rfl (Nat.le_of_ble_eq_true rfl) (Nat.le_of_ble_eq_true rfl) ⟨by decide, by decide⟩ ?_
    refine n_isPT hW hG (k := k0) (by omega) ?_
    show WP _ _ 5 _ [.int (xb true)] _ _
    refine xb_if_eq true 18 dX10_body_5 (by decide) rfl (fun z => absurd z (by decide)) (fun _ => ?_)
    refine xi_iload_n dX10_body_8 rfl ?_
    refine xi_iconst (v := 0) dX10_body_9 rfl ?_
    refine xi_bipush (v := 6) dX10_body_10 (by decide) ?_
    refine xi_callS [.int x1, .int 0, .int 6] [] dX10_body_12 zX10_in mlX10_137 rfl rfl rfl (Nat.le_of_ble_eq_true rfl) (Nat.le_of_ble_eq_true rfl) ⟨by decide, by decide⟩ ?_
    refine n_inF (l := 0) (r := 6) (at_rg (by omega) hc1 (by omega)) ?_
    show WP _ _ 15 _ [.int (xb false)] _ _
    refine xb_if_ne false 20 dX10_body_15 (by decide) rfl (fun z => absurd z (by decide)) (fun _ => ?_)
    refine xi_iconst (v := (-1)) dX10_body_18 rfl ?_
    refine xi_iret (v := (-1)) dX10_body_19 rfl ?_
    have e : a_body (G, S0, now, late, risk, A, L, sq, nl, rf, hr, lg, w, tp) (nI k0) x1 = -1 := by simp only [a_body, ec0, ec1]
    rw [e] at h
    exact h
  rcases (show k1 = 0 ∨ k1 = 1 ∨ k1 = 2 ∨ k1 = 3 ∨ k1 = 4 ∨ k1 = 5 ∨ k1 = 6 by omega) with rfl | rfl | rfl | rfl | rfl | rfl | rfl
  · skip
    refine xi_aload_n dX10_body_0 rfl ?_
    refine xi_iload_n dX10_body_1 rfl ?_
    refine xi_callV [.int (nI k0)] [] dX10_body_2 zX10_isPlayer mlX10_272 mm0 rfl rfl rfl rfl rfl (Nat.le_of_ble_eq_true rfl) (Nat.le_of_ble_eq_true rfl) ⟨by decide, by decide⟩ ?_
    refine n_isPT hW hG (k := k0) (by omega) ?_
    show WP _ _ 5 _ [.int (xb true)] _ _
    refine xb_if_eq true 18 dX10_body_5 (by decide) rfl (fun z => absurd z (by decide)) (fun _ => ?_)
    refine xi_iload_n dX10_body_8 rfl ?_
    refine xi_iconst (v := 0) dX10_body_9 rfl ?_
    refine xi_bipush (v := 6) dX10_body_10 (by decide) ?_
    refine xi_callS [.int (nI 0), .int 0, .int 6] [] dX10_body_12 zX10_in mlX10_137 rfl rfl rfl (Nat.le_of_ble_eq_true rfl) (Nat.le_of_ble_eq_true rfl) ⟨by decide, by decide⟩ ?_
    refine n_inT (k := 0) (l := 0) (r := 6) (by omega) (by omega) (by omega) ?_
    show WP _ _ 15 _ [.int (xb true)] _ _
    refine xb_if_ne true 20 dX10_body_15 (by decide) rfl (fun _ => ?_) (fun z => absurd z (by decide))
    refine xi_bipush (v := 112) dX10_body_20 (by decide) ?_
    refine xi_aload_n dX10_body_22 rfl ?_
    refine xe_getI (v := nI now) dX10_body_23 fgX10_110 mm0 rfl hno ?_
    refine xe_imul dX10_body_26 (v := nI s) ((pk_mul 112 now).trans (congrArg nI es.symm)) ?_
    refine xi_istore_n (lv' := [some (.ref 0), some (.int (nI k0)), some (.int (nI 0)), some (.int (nI s))]) dX10_body_27 (by decide) rfl ?_
    refine xi_iload_n dX10_body_28 rfl ?_
    refine xi_iconst (v := 5) dX10_body_29 rfl ?_
    refine xn_icmp_ge 0 5 49 dX10_body_30 (by decide) rfl rfl (by omega) (by omega) (fun h30 => ?_) (fun h30 => ?_)
    · omega
    · skip
      refine xi_aload_n dX10_body_33 rfl ?_
      refine xi_getR dX10_body_34 fgX10_39 mm0 rfl ?_
      refine xi_iload_n dX10_body_37 rfl ?_
      refine xi_bipush (v := 6) dX10_body_38 (by decide) ?_
      refine xi_iload_n dX10_body_40 rfl ?_
      refine xe_imul dX10_body_41 (v := nI (6 * k0)) (pk_mul 6 k0) ?_
      refine xe_iadd dX10_body_42 (v := nI (s + (6 * k0))) (nI_add s (6 * k0)) ?_
      refine xi_iload_n dX10_body_43 rfl ?_
      refine xe_iadd dX10_body_44 (v := nI (s + (6 * k0) + 0)) (nI_add (s + (6 * k0)) 0) ?_
      refine xe_iald (v := sC (Zf G A S0 now) k0) (s + (6 * k0) + 0) dX10_body_45 mm5 (by decide) rfl (by omega) (rmC hS (by omega)) ?_
      refine xi_goto 79 dX10_body_46 (by decide) ?_
      refine xi_iret (v := sC (Zf G A S0 now) k0) dX10_body_79 rfl ?_
      simp only [a_body, ec0, ec1, h30] at h
      exact h
  · skip
    refine xi_aload_n dX10_body_0 rfl ?_
    refine xi_iload_n dX10_body_1 rfl ?_
    refine xi_callV [.int (nI k0)] [] dX10_body_2 zX10_isPlayer mlX10_272 mm0 rfl rfl rfl rfl rfl (Nat.le_of_ble_eq_true rfl) (Nat.le_of_ble_eq_true rfl) ⟨by decide, by decide⟩ ?_
    refine n_isPT hW hG (k := k0) (by omega) ?_
    show WP _ _ 5 _ [.int (xb true)] _ _
    refine xb_if_eq true 18 dX10_body_5 (by decide) rfl (fun z => absurd z (by decide)) (fun _ => ?_)
    refine xi_iload_n dX10_body_8 rfl ?_
    refine xi_iconst (v := 0) dX10_body_9 rfl ?_
    refine xi_bipush (v := 6) dX10_body_10 (by decide) ?_
    refine xi_callS [.int (nI 1), .int 0, .int 6] [] dX10_body_12 zX10_in mlX10_137 rfl rfl rfl (Nat.le_of_ble_eq_true rfl) (Nat.le_of_ble_eq_true rfl) ⟨by decide, by decide⟩ ?_
    refine n_inT (k := 1) (l := 0) (r := 6) (by omega) (by omega) (by omega) ?_
    show WP _ _ 15 _ [.int (xb true)] _ _
    refine xb_if_ne true 20 dX10_body_15 (by decide) rfl (fun _ => ?_) (fun z => absurd z (by decide))
    refine xi_bipush (v := 112) dX10_body_20 (by decide) ?_
    refine xi_aload_n dX10_body_22 rfl ?_
    refine xe_getI (v := nI now) dX10_body_23 fgX10_110 mm0 rfl hno ?_
    refine xe_imul dX10_body_26 (v := nI s) ((pk_mul 112 now).trans (congrArg nI es.symm)) ?_
    refine xi_istore_n (lv' := [some (.ref 0), some (.int (nI k0)), some (.int (nI 1)), some (.int (nI s))]) dX10_body_27 (by decide) rfl ?_
    refine xi_iload_n dX10_body_28 rfl ?_
    refine xi_iconst (v := 5) dX10_body_29 rfl ?_
    refine xn_icmp_ge 1 5 49 dX10_body_30 (by decide) rfl rfl (by omega) (by omega) (fun h30 => ?_) (fun h30 => ?_)
    · omega
    · skip
      refine xi_aload_n dX10_body_33 rfl ?_
      refine xi_getR dX10_body_34 fgX10_39 mm0 rfl ?_
      refine xi_iload_n dX10_body_37 rfl ?_
      refine xi_bipush (v := 6) dX10_body_38 (by decide) ?_
      refine xi_iload_n dX10_body_40 rfl ?_
      refine xe_imul dX10_body_41 (v := nI (6 * k0)) (pk_mul 6 k0) ?_
      refine xe_iadd dX10_body_42 (v := nI (s + (6 * k0))) (nI_add s (6 * k0)) ?_
      refine xi_iload_n dX10_body_43 rfl ?_
      refine xe_iadd dX10_body_44 (v := nI (s + (6 * k0) + 1)) (nI_add (s + (6 * k0)) 1) ?_
      have q1 := (hw).2.1 k0 (by omega)
      refine xe_iald (v := nI (sL (Zf G A S0 now) k0)) (s + (6 * k0) + 1) dX10_body_45 mm5 (by decide) rfl (by omega) (rmL hS (by omega)) ?_
      refine xi_goto 79 dX10_body_46 (by decide) ?_
      refine xi_iret (v := nI (sL (Zf G A S0 now) k0)) dX10_body_79 rfl ?_
      simp only [a_body, ec0, ec1, h30] at h
      exact h
  · skip
    refine xi_aload_n dX10_body_0 rfl ?_
    refine xi_iload_n dX10_body_1 rfl ?_
    refine xi_callV [.int (nI k0)] [] dX10_body_2 zX10_isPlayer mlX10_272 mm0 rfl rfl rfl rfl rfl (Nat.le_of_ble_eq_true rfl) (Nat.le_of_ble_eq_true rfl) ⟨by decide, by decide⟩ ?_
    refine n_isPT hW hG (k := k0) (by omega) ?_
    show WP _ _ 5 _ [.int (xb true)] _ _
    refine xb_if_eq true 18 dX10_body_5 (by decide) rfl (fun z => absurd z (by decide)) (fun _ => ?_)
    refine xi_iload_n dX10_body_8 rfl ?_
    refine xi_iconst (v := 0) dX10_body_9 rfl ?_
    refine xi_bipush (v := 6) dX10_body_10 (by decide) ?_
    refine xi_callS [.int (nI 2), .int 0, .int 6] [] dX10_body_12 zX10_in mlX10_137 rfl rfl rfl (Nat.le_of_ble_eq_true rfl) (Nat.le_of_ble_eq_true rfl) ⟨by decide, by decide⟩ ?_
    refine n_inT (k := 2) (l := 0) (r := 6) (by omega) (by omega) (by omega) ?_
    show WP _ _ 15 _ [.int (xb true)] _ _
    refine xb_if_ne true 20 dX10_body_15 (by decide) rfl (fun _ => ?_) (fun z => absurd z (by decide))
    refine xi_bipush (v := 112) dX10_body_20 (by decide) ?_
    refine xi_aload_n dX10_body_22 rfl ?_
    refine xe_getI (v := nI now) dX10_body_23 fgX10_110 mm0 rfl hno ?_
    refine xe_imul dX10_body_26 (v := nI s) ((pk_mul 112 now).trans (congrArg nI es.symm)) ?_
    refine xi_istore_n (lv' := [some (.ref 0), some (.int (nI k0)), some (.int (nI 2)), some (.int (nI s))]) dX10_body_27 (by decide) rfl ?_
    refine xi_iload_n dX10_body_28 rfl ?_
    refine xi_iconst (v := 5) dX10_body_29 rfl ?_
    refine xn_icmp_ge 2 5 49 dX10_body_30 (by decide) rfl rfl (by omega) (by omega) (fun h30 => ?_) (fun h30 => ?_)
    · omega
    · skip
      refine xi_aload_n dX10_body_33 rfl ?_
      refine xi_getR dX10_body_34 fgX10_39 mm0 rfl ?_
      refine xi_iload_n dX10_body_37 rfl ?_
      refine xi_bipush (v := 6) dX10_body_38 (by decide) ?_
      refine xi_iload_n dX10_body_40 rfl ?_
      refine xe_imul dX10_body_41 (v := nI (6 * k0)) (pk_mul 6 k0) ?_
      refine xe_iadd dX10_body_42 (v := nI (s + (6 * k0))) (nI_add s (6 * k0)) ?_
      refine xi_iload_n dX10_body_43 rfl ?_
      refine xe_iadd dX10_body_44 (v := nI (s + (6 * k0) + 2)) (nI_add (s + (6 * k0)) 2) ?_
      refine xe_iald (v := sF (Zf G A S0 now) k0) (s + (6 * k0) + 2) dX10_body_45 mm5 (by decide) rfl (by omega) (rmF hS (by omega)) ?_
      refine xi_goto 79 dX10_body_46 (by decide) ?_
      refine xi_iret (v := sF (Zf G A S0 now) k0) dX10_body_79 rfl ?_
      simp only [a_body, ec0, ec1, h30] at h
      exact h
  · skip
    refine xi_aload_n dX10_body_0 rfl ?_
    refine xi_iload_n dX10_body_1 rfl ?_
    refine xi_callV [.int (nI k0)] [] dX10_body_2 zX10_isPlayer mlX10_272 mm0 rfl rfl rfl rfl rfl (Nat.le_of_ble_eq_true rfl) (Nat.le_of_ble_eq_true rfl) ⟨by decide, by decide⟩ ?_
    refine n_isPT hW hG (k := k0) (by omega) ?_
    show WP _ _ 5 _ [.int (xb true)] _ _
    refine xb_if_eq true 18 dX10_body_5 (by decide) rfl (fun z => absurd z (by decide)) (fun _ => ?_)
    refine xi_iload_n dX10_body_8 rfl ?_
    refine xi_iconst (v := 0) dX10_body_9 rfl ?_
    refine xi_bipush (v := 6) dX10_body_10 (by decide) ?_
    refine xi_callS [.int (nI 3), .int 0, .int 6] [] dX10_body_12 zX10_in mlX10_137 rfl rfl rfl (Nat.le_of_ble_eq_true rfl) (Nat.le_of_ble_eq_true rfl) ⟨by decide, by decide⟩ ?_
    refine n_inT (k := 3) (l := 0) (r := 6) (by omega) (by omega) (by omega) ?_
    show WP _ _ 15 _ [.int (xb true)] _ _
    refine xb_if_ne true 20 dX10_body_15 (by decide) rfl (fun _ => ?_) (fun z => absurd z (by decide))
    refine xi_bipush (v := 112) dX10_body_20 (by decide) ?_
    refine xi_aload_n dX10_body_22 rfl ?_
    refine xe_getI (v := nI now) dX10_body_23 fgX10_110 mm0 rfl hno ?_
    refine xe_imul dX10_body_26 (v := nI s) ((pk_mul 112 now).trans (congrArg nI es.symm)) ?_
    refine xi_istore_n (lv' := [some (.ref 0), some (.int (nI k0)), some (.int (nI 3)), some (.int (nI s))]) dX10_body_27 (by decide) rfl ?_
    refine xi_iload_n dX10_body_28 rfl ?_
    refine xi_iconst (v := 5) dX10_body_29 rfl ?_
    refine xn_icmp_ge 3 5 49 dX10_body_30 (by decide) rfl rfl (by omega) (by omega) (fun h30 => ?_) (fun h30 => ?_)
    · omega
    · skip
      refine xi_aload_n dX10_body_33 rfl ?_
      refine xi_getR dX10_body_34 fgX10_39 mm0 rfl ?_
      refine xi_iload_n dX10_body_37 rfl ?_
      refine xi_bipush (v := 6) dX10_body_38 (by decide) ?_
      refine xi_iload_n dX10_body_40 rfl ?_
      refine xe_imul dX10_body_41 (v := nI (6 * k0)) (pk_mul 6 k0) ?_
      refine xe_iadd dX10_body_42 (v := nI (s + (6 * k0))) (nI_add s (6 * k0)) ?_
      refine xi_iload_n dX10_body_43 rfl ?_
      refine xe_iadd dX10_body_44 (v := nI (s + (6 * k0) + 3)) (nI_add (s + (6 * k0)) 3) ?_
      have q1 := (hw).2.2.2.1 k0 (by omega)
      refine xe_iald (v := nI (sR (Zf G A S0 now) k0)) (s + (6 * k0) + 3) dX10_body_45 mm5 (by decide) rfl (by omega) (rmR hS (by omega)) ?_
      refine xi_goto 79 dX10_body_46 (by decide) ?_
      refine xi_iret (v := nI (sR (Zf G A S0 now) k0)) dX10_body_79 rfl ?_
      simp only [a_body, ec0, ec1, h30] at h
      exact h
  · skip
    refine xi_aload_n dX10_body_0 rfl ?_
    refine xi_iload_n dX10_body_1 rfl ?_
    refine xi_callV [.int (nI k0)] [] dX10_body_2 zX10_isPlayer mlX10_272 mm0 rfl rfl rfl rfl rfl (Nat.le_of_ble_eq_true rfl) (Nat.le_of_ble_eq_true rfl) ⟨by decide, by decide⟩ ?_
    refine n_isPT hW hG (k := k0) (by omega) ?_
    show WP _ _ 5 _ [.int (xb true)] _ _
    refine xb_if_eq true 18 dX10_body_5 (by decide) rfl (fun z => absurd z (by decide)) (fun _ => ?_)
    refine xi_iload_n dX10_body_8 rfl ?_
    refine xi_iconst (v := 0) dX10_body_9 rfl ?_
    refine xi_bipush (v := 6) dX10_body_10 (by decide) ?_
    refine xi_callS [.int (nI 4), .int 0, .int 6] [] dX10_body_12 zX10_in mlX10_137 rfl rfl rfl (Nat.le_of_ble_eq_true rfl) (Nat.le_of_ble_eq_true rfl) ⟨by decide, by decide⟩ ?_
    refine n_inT (k := 4) (l := 0) (r := 6) (by omega) (by omega) (by omega) ?_
    show WP _ _ 15 _ [.int (xb true)] _ _
    refine xb_if_ne true 20 dX10_body_15 (by decide) rfl (fun _ => ?_) (fun z => absurd z (by decide))
    refine xi_bipush (v := 112) dX10_body_20 (by decide) ?_
    refine xi_aload_n dX10_body_22 rfl ?_
    refine xe_getI (v := nI now) dX10_body_23 fgX10_110 mm0 rfl hno ?_
    refine xe_imul dX10_body_26 (v := nI s) ((pk_mul 112 now).trans (congrArg nI es.symm)) ?_
    refine xi_istore_n (lv' := [some (.ref 0), some (.int (nI k0)), some (.int (nI 4)), some (.int (nI s))]) dX10_body_27 (by decide) rfl ?_
    refine xi_iload_n dX10_body_28 rfl ?_
    refine xi_iconst (v := 5) dX10_body_29 rfl ?_
    refine xn_icmp_ge 4 5 49 dX10_body_30 (by decide) rfl rfl (by omega) (by omega) (fun h30 => ?_) (fun h30 => ?_)
    · omega
    · skip
      refine xi_aload_n dX10_body_33 rfl ?_
      refine xi_getR dX10_body_34 fgX10_39 mm0 rfl ?_
      refine xi_iload_n dX10_body_37 rfl ?_
      refine xi_bipush (v := 6) dX10_body_38 (by decide) ?_
      refine xi_iload_n dX10_body_40 rfl ?_
      refine xe_imul dX10_body_41 (v := nI (6 * k0)) (pk_mul 6 k0) ?_
      refine xe_iadd dX10_body_42 (v := nI (s + (6 * k0))) (nI_add s (6 * k0)) ?_
      refine xi_iload_n dX10_body_43 rfl ?_
      refine xe_iadd dX10_body_44 (v := nI (s + (6 * k0) + 4)) (nI_add (s + (6 * k0)) 4) ?_
      obtain ⟨o1, ho1⟩ : ∃ o, o = sH (Zf G A S0 now) k0 := ⟨_, rfl⟩
      refine xe_iald (v := xo o1) (s + (6 * k0) + 4) dX10_body_45 mm5 (by decide) rfl (by omega) (by rw [ho1]; exact rmH hS (by omega)) ?_
      refine xi_goto 79 dX10_body_46 (by decide) ?_
      refine xi_iret (v := xo o1) dX10_body_79 rfl ?_
      simp only [a_body, ec0, ec1, h30] at h
      rw [ho1]
      exact h
  · skip
    refine xi_aload_n dX10_body_0 rfl ?_
    refine xi_iload_n dX10_body_1 rfl ?_
    refine xi_callV [.int (nI k0)] [] dX10_body_2 zX10_isPlayer mlX10_272 mm0 rfl rfl rfl rfl rfl (Nat.le_of_ble_eq_true rfl) (Nat.le_of_ble_eq_true rfl) ⟨by decide, by decide⟩ ?_
    refine n_isPT hW hG (k := k0) (by omega) ?_
    show WP _ _ 5 _ [.int (xb true)] _ _
    refine xb_if_eq true 18 dX10_body_5 (by decide) rfl (fun z => absurd z (by decide)) (fun _ => ?_)
    refine xi_iload_n dX10_body_8 rfl ?_
    refine xi_iconst (v := 0) dX10_body_9 rfl ?_
    refine xi_bipush (v := 6) dX10_body_10 (by decide) ?_
    refine xi_callS [.int (nI 5), .int 0, .int 6] [] dX10_body_12 zX10_in mlX10_137 rfl rfl rfl (Nat.le_of_ble_eq_true rfl) (Nat.le_of_ble_eq_true rfl) ⟨by decide, by decide⟩ ?_
    refine n_inT (k := 5) (l := 0) (r := 6) (by omega) (by omega) (by omega) ?_
    show WP _ _ 15 _ [.int (xb true)] _ _
    refine xb_if_ne true 20 dX10_body_15 (by decide) rfl (fun _ => ?_) (fun z => absurd z (by decide))
    refine xi_bipush (v := 112) dX10_body_20 (by decide) ?_
    refine xi_aload_n dX10_body_22 rfl ?_
    refine xe_getI (v := nI now) dX10_body_23 fgX10_110 mm0 rfl hno ?_
    refine xe_imul dX10_body_26 (v := nI s) ((pk_mul 112 now).trans (congrArg nI es.symm)) ?_
    refine xi_istore_n (lv' := [some (.ref 0), some (.int (nI k0)), some (.int (nI 5)), some (.int (nI s))]) dX10_body_27 (by decide) rfl ?_
    refine xi_iload_n dX10_body_28 rfl ?_
    refine xi_iconst (v := 5) dX10_body_29 rfl ?_
    refine xn_icmp_ge 5 5 49 dX10_body_30 (by decide) rfl rfl (by omega) (by omega) (fun h30 => ?_) (fun h30 => ?_)
    · skip
      refine xi_iload_n dX10_body_49 rfl ?_
      refine xi_iconst (v := 5) dX10_body_50 rfl ?_
      refine xn_icmp_ne 5 5 68 dX10_body_51 (by decide) rfl rfl (by omega) (by omega) (fun h51 => ?_) (fun h51 => ?_)
      · omega
      · skip
        refine xi_aload_n dX10_body_54 rfl ?_
        refine xi_getR dX10_body_55 fgX10_39 mm0 rfl ?_
        refine xi_iload_n dX10_body_58 rfl ?_
        refine xi_bipush (v := 104) dX10_body_59 (by decide) ?_
        refine xe_iadd dX10_body_61 (v := nI (s + 104)) (nI_add s 104) ?_
        refine xi_iload_n dX10_body_62 rfl ?_
        refine xe_iadd dX10_body_63 (v := nI (s + 104 + k0)) (nI_add (s + 104) k0) ?_
        refine xe_iald (v := sP (Zf G A S0 now) k0) (s + 104 + k0) dX10_body_64 mm5 (by decide) rfl (by omega) (rmP hS (by omega)) ?_
        refine xi_goto 79 dX10_body_65 (by decide) ?_
        refine xi_iret (v := sP (Zf G A S0 now) k0) dX10_body_79 rfl ?_
        simp only [a_body, ec0, ec1, h30, h51] at h
        exact h
    · omega
  · skip
    refine xi_aload_n dX10_body_0 rfl ?_
    refine xi_iload_n dX10_body_1 rfl ?_
    refine xi_callV [.int (nI k0)] [] dX10_body_2 zX10_isPlayer mlX10_272 mm0 rfl rfl rfl rfl rfl (Nat.le_of_ble_eq_true rfl) (Nat.le_of_ble_eq_true rfl) ⟨by decide, by decide⟩ ?_
    refine n_isPT hW hG (k := k0) (by omega) ?_
    show WP _ _ 5 _ [.int (xb true)] _ _
    refine xb_if_eq true 18 dX10_body_5 (by decide) rfl (fun z => absurd z (by decide)) (fun _ => ?_)
    refine xi_iload_n dX10_body_8 rfl ?_
    refine xi_iconst (v := 0) dX10_body_9 rfl ?_
    refine xi_bipush (v := 6) dX10_body_10 (by decide) ?_
    refine xi_callS [.int (nI 6), .int 0, .int 6] [] dX10_body_12 zX10_in mlX10_137 rfl rfl rfl (Nat.le_of_ble_eq_true rfl) (Nat.le_of_ble_eq_true rfl) ⟨by decide, by decide⟩ ?_
    refine n_inT (k := 6) (l := 0) (r := 6) (by omega) (by omega) (by omega) ?_
    show WP _ _ 15 _ [.int (xb true)] _ _
    refine xb_if_ne true 20 dX10_body_15 (by decide) rfl (fun _ => ?_) (fun z => absurd z (by decide))
    refine xi_bipush (v := 112) dX10_body_20 (by decide) ?_
    refine xi_aload_n dX10_body_22 rfl ?_
    refine xe_getI (v := nI now) dX10_body_23 fgX10_110 mm0 rfl hno ?_
    refine xe_imul dX10_body_26 (v := nI s) ((pk_mul 112 now).trans (congrArg nI es.symm)) ?_
    refine xi_istore_n (lv' := [some (.ref 0), some (.int (nI k0)), some (.int (nI 6)), some (.int (nI s))]) dX10_body_27 (by decide) rfl ?_
    refine xi_iload_n dX10_body_28 rfl ?_
    refine xi_iconst (v := 5) dX10_body_29 rfl ?_
    refine xn_icmp_ge 6 5 49 dX10_body_30 (by decide) rfl rfl (by omega) (by omega) (fun h30 => ?_) (fun h30 => ?_)
    · skip
      refine xi_iload_n dX10_body_49 rfl ?_
      refine xi_iconst (v := 5) dX10_body_50 rfl ?_
      refine xn_icmp_ne 6 5 68 dX10_body_51 (by decide) rfl rfl (by omega) (by omega) (fun h51 => ?_) (fun h51 => ?_)
      · skip
        refine xi_aload_n dX10_body_68 rfl ?_
        refine xi_getR dX10_body_69 fgX10_39 mm0 rfl ?_
        refine xi_iload_n dX10_body_72 rfl ?_
        refine xi_bipush (v := 108) dX10_body_73 (by decide) ?_
        refine xe_iadd dX10_body_75 (v := nI (s + 108)) (nI_add s 108) ?_
        refine xi_iload_n dX10_body_76 rfl ?_
        refine xe_iadd dX10_body_77 (v := nI (s + 108 + k0)) (nI_add (s + 108) k0) ?_
        refine xe_iald (v := sK (Zf G A S0 now) k0) (s + 108 + k0) dX10_body_78 mm5 (by decide) rfl (by omega) (rmK hS (by omega)) ?_
        refine xi_iret (v := sK (Zf G A S0 now) k0) dX10_body_79 rfl ?_
        simp only [a_body, ec0, ec1, h30, h51] at h
        exact h
      · omega
    · omega

set_option maxHeartbeats 4000000 in
set_option maxRecDepth 100000 in
theorem mo_thing {X : xX} {M : xM} {Q : Option Value → xM → Prop} (hX : wX X) (hC : RepM X M) (x0 : Int32) (x1 : Int32) (h : Q (some (.int (a_thing X x0 x1))) M) : WP shM mX10_thing 0 [some (.ref 0), some (.int x0), some (.int x1), none] [] M Q := by
  obtain ⟨G, S0, now, late, risk, A, L, sq, nl, rf, hr, lg, w, tp⟩ := X
  obtain ⟨hW, hw0, wn, wl, wr, wA_, wsq, wnl, wmo, wtk, wwt, wtp, wO0, wB0⟩ := id hX
  obtain ⟨b1, b2, b3, b4, b5, b6, b7, b8, b9, wmap, wlink, wk0, wk1, b10, b11, wword⟩ := id hW
  have nb : nl ≤ 2000 := by rw [wnl]; exact mcnt_le 2000
  obtain ⟨hG, hNS, hNA, hNL, hNH, hNE, hNQ, hNW, hNT, hNM⟩ := id hC
  obtain ⟨hno, hla, hri, hnl, hrf, hhr⟩ := id hNM
  obtain ⟨s, es⟩ : ∃ s, s = 112 * now := ⟨_, rfl⟩
  have hs : s ≤ 56000 := by omega
  have hS : RM G (Zf G A S0 now) M s := by rw [es]; exact hNS.1 now (Nat.le_refl _)
  have hw : wS G (Zf G A S0 now) := wS_Zf hW hw0 now
  rcases xix_cases x0 (n := gT G) (by omega) with ⟨ec0, hc0⟩ | ⟨k0, hk0, rfl, ec0⟩
  · skip
    refine xi_iload_n dX10_thing_0 rfl ?_
    refine xi_iconst (v := 0) dX10_thing_1 rfl ?_
    refine xi_aload_n dX10_thing_2 rfl ?_
    refine xe_getI (v := nI (gT G)) dX10_thing_3 fgX10_107 mm0 rfl (mg_T hG) ?_
    refine xi_iconst (v := 1) dX10_thing_6 rfl ?_
    refine xi_isub dX10_thing_7 ?_
    refine xi_callS [.int x0, .int 0, .int (nI (gT G) - 1)] [] dX10_thing_8 zX10_in mlX10_137 rfl rfl rfl (Nat.le_of_ble_eq_true rfl) (Nat.le_of_ble_eq_true rfl) ⟨by decide, by decide⟩ ?_
    refine n_in1F (n := (gT G)) (by omega) hc0 ?_
    show WP _ _ 11 _ [.int (xb false)] _ _
    refine xb_if_eq false 23 dX10_thing_11 (by decide) rfl (fun _ => ?_) (fun z => absurd z (by decide))
    refine xi_iconst (v := (-1)) dX10_thing_23 rfl ?_
    refine xi_iret (v := (-1)) dX10_thing_24 rfl ?_
    have e : a_thing (G, S0, now, late, risk, A, L, sq, nl, rf, hr, lg, w, tp) x0 x1 = -1 := by simp only [a_thing, ec0]
    rw [e] at h
    exact h
  rcases xix_cases x1 (n := 4) (by omega) with ⟨ec1, hc1⟩ | ⟨k1, hk1, rfl, ec1⟩
  · skip
    refine xi_iload_n dX10_thing_0 rfl ?_
    refine xi_iconst (v := 0) dX10_thing_1 rfl ?_
    refine xi_aload_n dX10_thing_2 rfl ?_
    refine xe_getI (v := nI (gT G)) dX10_thing_3 fgX10_107 mm0 rfl (mg_T hG) ?_
    refine xi_iconst (v := 1) dX10_thing_6 rfl ?_
    refine xi_isub dX10_thing_7 ?_
    refine xi_callS [.int (nI k0), .int 0, .int (nI (gT G) - 1)] [] dX10_thing_8 zX10_in mlX10_137 rfl rfl rfl (Nat.le_of_ble_eq_true rfl) (Nat.le_of_ble_eq_true rfl) ⟨by decide, by decide⟩ ?_
    refine n_in1T (k := k0) (n := (gT G)) (by omega) (by omega) ?_
    show WP _ _ 11 _ [.int (xb true)] _ _
    refine xb_if_eq true 23 dX10_thing_11 (by decide) rfl (fun z => absurd z (by decide)) (fun _ => ?_)
    refine xi_iload_n dX10_thing_14 rfl ?_
    refine xi_iconst (v := 0) dX10_thing_15 rfl ?_
    refine xi_iconst (v := 3) dX10_thing_16 rfl ?_
    refine xi_callS [.int x1, .int 0, .int 3] [] dX10_thing_17 zX10_in mlX10_137 rfl rfl rfl (Nat.le_of_ble_eq_true rfl) (Nat.le_of_ble_eq_true rfl) ⟨by decide, by decide⟩ ?_
    refine n_inF (l := 0) (r := 3) (at_rg (by omega) hc1 (by omega)) ?_
    show WP _ _ 20 _ [.int (xb false)] _ _
    refine xb_if_ne false 25 dX10_thing_20 (by decide) rfl (fun z => absurd z (by decide)) (fun _ => ?_)
    refine xi_iconst (v := (-1)) dX10_thing_23 rfl ?_
    refine xi_iret (v := (-1)) dX10_thing_24 rfl ?_
    have e : a_thing (G, S0, now, late, risk, A, L, sq, nl, rf, hr, lg, w, tp) (nI k0) x1 = -1 := by simp only [a_thing, ec0, ec1]
    rw [e] at h
    exact h
  rcases (show k1 = 0 ∨ k1 = 1 ∨ k1 = 2 ∨ k1 = 3 by omega) with rfl | rfl | rfl | rfl
  · skip
    refine xi_iload_n dX10_thing_0 rfl ?_
    refine xi_iconst (v := 0) dX10_thing_1 rfl ?_
    refine xi_aload_n dX10_thing_2 rfl ?_
    refine xe_getI (v := nI (gT G)) dX10_thing_3 fgX10_107 mm0 rfl (mg_T hG) ?_
    refine xi_iconst (v := 1) dX10_thing_6 rfl ?_
    refine xi_isub dX10_thing_7 ?_
    refine xi_callS [.int (nI k0), .int 0, .int (nI (gT G) - 1)] [] dX10_thing_8 zX10_in mlX10_137 rfl rfl rfl (Nat.le_of_ble_eq_true rfl) (Nat.le_of_ble_eq_true rfl) ⟨by decide, by decide⟩ ?_
    refine n_in1T (k := k0) (n := (gT G)) (by omega) (by omega) ?_
    show WP _ _ 11 _ [.int (xb true)] _ _
    refine xb_if_eq true 23 dX10_thing_11 (by decide) rfl (fun z => absurd z (by decide)) (fun _ => ?_)
    refine xi_iload_n dX10_thing_14 rfl ?_
    refine xi_iconst (v := 0) dX10_thing_15 rfl ?_
    refine xi_iconst (v := 3) dX10_thing_16 rfl ?_
    refine xi_callS [.int (nI 0), .int 0, .int 3] [] dX10_thing_17 zX10_in mlX10_137 rfl rfl rfl (Nat.le_of_ble_eq_true rfl) (Nat.le_of_ble_eq_true rfl) ⟨by decide, by decide⟩ ?_
    refine n_inT (k := 0) (l := 0) (r := 3) (by omega) (by omega) (by omega) ?_
    show WP _ _ 20 _ [.int (xb true)] _ _
    refine xb_if_ne true 25 dX10_thing_20 (by decide) rfl (fun _ => ?_) (fun z => absurd z (by decide))
    refine xi_bipush (v := 112) dX10_thing_25 (by decide) ?_
    refine xi_aload_n dX10_thing_27 rfl ?_
    refine xe_getI (v := nI now) dX10_thing_28 fgX10_110 mm0 rfl hno ?_
    refine xe_imul dX10_thing_31 (v := nI s) ((pk_mul 112 now).trans (congrArg nI es.symm)) ?_
    refine xi_bipush (v := 6) dX10_thing_32 (by decide) ?_
    refine xi_iload_n dX10_thing_34 rfl ?_
    refine xe_imul dX10_thing_35 (v := nI (6 * k0)) (pk_mul 6 k0) ?_
    refine xe_iadd dX10_thing_36 (v := nI (s + (6 * k0))) (nI_add s (6 * k0)) ?_
    refine xi_istore_n (lv' := [some (.ref 0), some (.int (nI k0)), some (.int (nI 0)), some (.int (nI (s + (6 * k0))))]) dX10_thing_37 (by decide) rfl ?_
    refine xi_iload_n dX10_thing_38 rfl ?_
    refine xat 39 rfl ?_
    refine xn_if_ne 0 51 dX10_thing_39 (by decide) rfl (by omega) (fun h39 => ?_) (fun h39 => ?_)
    · omega
    · skip
      refine xi_aload_n dX10_thing_42 rfl ?_
      refine xi_getR dX10_thing_43 fgX10_29 mm0 rfl ?_
      refine xi_iload_n dX10_thing_46 rfl ?_
      have q1 : gkind G k0 ≤ 7 := hW.kind (by omega)
      refine xe_iald (v := nI (gkind G k0)) k0 dX10_thing_47 mm4 (by decide) rfl (by omega) (mg_kind hG (by omega)) ?_
      refine xi_goto 91 dX10_thing_48 (by decide) ?_
      refine xi_iret (v := nI (gkind G k0)) dX10_thing_91 rfl ?_
      simp only [a_thing, ec0, ec1, h39] at h
      exact h
  · skip
    refine xi_iload_n dX10_thing_0 rfl ?_
    refine xi_iconst (v := 0) dX10_thing_1 rfl ?_
    refine xi_aload_n dX10_thing_2 rfl ?_
    refine xe_getI (v := nI (gT G)) dX10_thing_3 fgX10_107 mm0 rfl (mg_T hG) ?_
    refine xi_iconst (v := 1) dX10_thing_6 rfl ?_
    refine xi_isub dX10_thing_7 ?_
    refine xi_callS [.int (nI k0), .int 0, .int (nI (gT G) - 1)] [] dX10_thing_8 zX10_in mlX10_137 rfl rfl rfl (Nat.le_of_ble_eq_true rfl) (Nat.le_of_ble_eq_true rfl) ⟨by decide, by decide⟩ ?_
    refine n_in1T (k := k0) (n := (gT G)) (by omega) (by omega) ?_
    show WP _ _ 11 _ [.int (xb true)] _ _
    refine xb_if_eq true 23 dX10_thing_11 (by decide) rfl (fun z => absurd z (by decide)) (fun _ => ?_)
    refine xi_iload_n dX10_thing_14 rfl ?_
    refine xi_iconst (v := 0) dX10_thing_15 rfl ?_
    refine xi_iconst (v := 3) dX10_thing_16 rfl ?_
    refine xi_callS [.int (nI 1), .int 0, .int 3] [] dX10_thing_17 zX10_in mlX10_137 rfl rfl rfl (Nat.le_of_ble_eq_true rfl) (Nat.le_of_ble_eq_true rfl) ⟨by decide, by decide⟩ ?_
    refine n_inT (k := 1) (l := 0) (r := 3) (by omega) (by omega) (by omega) ?_
    show WP _ _ 20 _ [.int (xb true)] _ _
    refine xb_if_ne true 25 dX10_thing_20 (by decide) rfl (fun _ => ?_) (fun z => absurd z (by decide))
    refine xi_bipush (v := 112) dX10_thing_25 (by decide) ?_
    refine xi_aload_n dX10_thing_27 rfl ?_
    refine xe_getI (v := nI now) dX10_thing_28 fgX10_110 mm0 rfl hno ?_
    refine xe_imul dX10_thing_31 (v := nI s) ((pk_mul 112 now).trans (congrArg nI es.symm)) ?_
    refine xi_bipush (v := 6) dX10_thing_32 (by decide) ?_
    refine xi_iload_n dX10_thing_34 rfl ?_
    refine xe_imul dX10_thing_35 (v := nI (6 * k0)) (pk_mul 6 k0) ?_
    refine xe_iadd dX10_thing_36 (v := nI (s + (6 * k0))) (nI_add s (6 * k0)) ?_
    refine xi_istore_n (lv' := [some (.ref 0), some (.int (nI k0)), some (.int (nI 1)), some (.int (nI (s + (6 * k0))))]) dX10_thing_37 (by decide) rfl ?_
    refine xi_iload_n dX10_thing_38 rfl ?_
    refine xat 39 rfl ?_
    refine xn_if_ne 1 51 dX10_thing_39 (by decide) rfl (by omega) (fun h39 => ?_) (fun h39 => ?_)
    · skip
      refine xi_iload_n dX10_thing_51 rfl ?_
      refine xi_iconst (v := 1) dX10_thing_52 rfl ?_
      refine xn_icmp_ne 1 1 67 dX10_thing_53 (by decide) rfl rfl (by omega) (by omega) (fun h53 => ?_) (fun h53 => ?_)
      · omega
      · skip
        refine xi_aload_n dX10_thing_56 rfl ?_
        refine xi_getR dX10_thing_57 fgX10_39 mm0 rfl ?_
        refine xi_iload_n dX10_thing_60 rfl ?_
        refine xi_iconst (v := 0) dX10_thing_61 rfl ?_
        refine xe_iadd dX10_thing_62 (v := nI (s + (6 * k0) + 0)) (nI_add (s + (6 * k0)) 0) ?_
        refine xe_iald (v := sC (Zf G A S0 now) k0) (s + (6 * k0) + 0) dX10_thing_63 mm5 (by decide) rfl (by omega) (rmC hS (by omega)) ?_
        refine xi_goto 91 dX10_thing_64 (by decide) ?_
        refine xi_iret (v := sC (Zf G A S0 now) k0) dX10_thing_91 rfl ?_
        simp only [a_thing, ec0, ec1, h39, h53] at h
        exact h
    · omega
  · skip
    refine xi_iload_n dX10_thing_0 rfl ?_
    refine xi_iconst (v := 0) dX10_thing_1 rfl ?_
    refine xi_aload_n dX10_thing_2 rfl ?_
    refine xe_getI (v := nI (gT G)) dX10_thing_3 fgX10_107 mm0 rfl (mg_T hG) ?_
    refine xi_iconst (v := 1) dX10_thing_6 rfl ?_
    refine xi_isub dX10_thing_7 ?_
    refine xi_callS [.int (nI k0), .int 0, .int (nI (gT G) - 1)] [] dX10_thing_8 zX10_in mlX10_137 rfl rfl rfl (Nat.le_of_ble_eq_true rfl) (Nat.le_of_ble_eq_true rfl) ⟨by decide, by decide⟩ ?_
    refine n_in1T (k := k0) (n := (gT G)) (by omega) (by omega) ?_
    show WP _ _ 11 _ [.int (xb true)] _ _
    refine xb_if_eq true 23 dX10_thing_11 (by decide) rfl (fun z => absurd z (by decide)) (fun _ => ?_)
    refine xi_iload_n dX10_thing_14 rfl ?_
    refine xi_iconst (v := 0) dX10_thing_15 rfl ?_
    refine xi_iconst (v := 3) dX10_thing_16 rfl ?_
    refine xi_callS [.int (nI 2), .int 0, .int 3] [] dX10_thing_17 zX10_in mlX10_137 rfl rfl rfl (Nat.le_of_ble_eq_true rfl) (Nat.le_of_ble_eq_true rfl) ⟨by decide, by decide⟩ ?_
    refine n_inT (k := 2) (l := 0) (r := 3) (by omega) (by omega) (by omega) ?_
    show WP _ _ 20 _ [.int (xb true)] _ _
    refine xb_if_ne true 25 dX10_thing_20 (by decide) rfl (fun _ => ?_) (fun z => absurd z (by decide))
    refine xi_bipush (v := 112) dX10_thing_25 (by decide) ?_
    refine xi_aload_n dX10_thing_27 rfl ?_
    refine xe_getI (v := nI now) dX10_thing_28 fgX10_110 mm0 rfl hno ?_
    refine xe_imul dX10_thing_31 (v := nI s) ((pk_mul 112 now).trans (congrArg nI es.symm)) ?_
    refine xi_bipush (v := 6) dX10_thing_32 (by decide) ?_
    refine xi_iload_n dX10_thing_34 rfl ?_
    refine xe_imul dX10_thing_35 (v := nI (6 * k0)) (pk_mul 6 k0) ?_
    refine xe_iadd dX10_thing_36 (v := nI (s + (6 * k0))) (nI_add s (6 * k0)) ?_
    refine xi_istore_n (lv' := [some (.ref 0), some (.int (nI k0)), some (.int (nI 2)), some (.int (nI (s + (6 * k0))))]) dX10_thing_37 (by decide) rfl ?_
    refine xi_iload_n dX10_thing_38 rfl ?_
    refine xat 39 rfl ?_
    refine xn_if_ne 2 51 dX10_thing_39 (by decide) rfl (by omega) (fun h39 => ?_) (fun h39 => ?_)
    · skip
      refine xi_iload_n dX10_thing_51 rfl ?_
      refine xi_iconst (v := 1) dX10_thing_52 rfl ?_
      refine xn_icmp_ne 2 1 67 dX10_thing_53 (by decide) rfl rfl (by omega) (by omega) (fun h53 => ?_) (fun h53 => ?_)
      · skip
        refine xi_iload_n dX10_thing_67 rfl ?_
        refine xi_iconst (v := 2) dX10_thing_68 rfl ?_
        refine xn_icmp_ne 2 2 83 dX10_thing_69 (by decide) rfl rfl (by omega) (by omega) (fun h69 => ?_) (fun h69 => ?_)
        · omega
        · skip
          refine xi_aload_n dX10_thing_72 rfl ?_
          refine xi_getR dX10_thing_73 fgX10_39 mm0 rfl ?_
          refine xi_iload_n dX10_thing_76 rfl ?_
          refine xi_iconst (v := 1) dX10_thing_77 rfl ?_
          refine xe_iadd dX10_thing_78 (v := nI (s + (6 * k0) + 1)) (nI_add (s + (6 * k0)) 1) ?_
          have q1 := (hw).2.1 k0 (by omega)
          refine xe_iald (v := nI (sL (Zf G A S0 now) k0)) (s + (6 * k0) + 1) dX10_thing_79 mm5 (by decide) rfl (by omega) (rmL hS (by omega)) ?_
          refine xi_goto 91 dX10_thing_80 (by decide) ?_
          refine xi_iret (v := nI (sL (Zf G A S0 now) k0)) dX10_thing_91 rfl ?_
          simp only [a_thing, ec0, ec1, h39, h53, h69] at h
          exact h
      · omega
    · omega
  · skip
    refine xi_iload_n dX10_thing_0 rfl ?_
    refine xi_iconst (v := 0) dX10_thing_1 rfl ?_
    refine xi_aload_n dX10_thing_2 rfl ?_
    refine xe_getI (v := nI (gT G)) dX10_thing_3 fgX10_107 mm0 rfl (mg_T hG) ?_
    refine xi_iconst (v := 1) dX10_thing_6 rfl ?_
    refine xi_isub dX10_thing_7 ?_
    refine xi_callS [.int (nI k0), .int 0, .int (nI (gT G) - 1)] [] dX10_thing_8 zX10_in mlX10_137 rfl rfl rfl (Nat.le_of_ble_eq_true rfl) (Nat.le_of_ble_eq_true rfl) ⟨by decide, by decide⟩ ?_
    refine n_in1T (k := k0) (n := (gT G)) (by omega) (by omega) ?_
    show WP _ _ 11 _ [.int (xb true)] _ _
    refine xb_if_eq true 23 dX10_thing_11 (by decide) rfl (fun z => absurd z (by decide)) (fun _ => ?_)
    refine xi_iload_n dX10_thing_14 rfl ?_
    refine xi_iconst (v := 0) dX10_thing_15 rfl ?_
    refine xi_iconst (v := 3) dX10_thing_16 rfl ?_
    refine xi_callS [.int (nI 3), .int 0, .int 3] [] dX10_thing_17 zX10_in mlX10_137 rfl rfl rfl (Nat.le_of_ble_eq_true rfl) (Nat.le_of_ble_eq_true rfl) ⟨by decide, by decide⟩ ?_
    refine n_inT (k := 3) (l := 0) (r := 3) (by omega) (by omega) (by omega) ?_
    show WP _ _ 20 _ [.int (xb true)] _ _
    refine xb_if_ne true 25 dX10_thing_20 (by decide) rfl (fun _ => ?_) (fun z => absurd z (by decide))
    refine xi_bipush (v := 112) dX10_thing_25 (by decide) ?_
    refine xi_aload_n dX10_thing_27 rfl ?_
    refine xe_getI (v := nI now) dX10_thing_28 fgX10_110 mm0 rfl hno ?_
    refine xe_imul dX10_thing_31 (v := nI s) ((pk_mul 112 now).trans (congrArg nI es.symm)) ?_
    refine xi_bipush (v := 6) dX10_thing_32 (by decide) ?_
    refine xi_iload_n dX10_thing_34 rfl ?_
    refine xe_imul dX10_thing_35 (v := nI (6 * k0)) (pk_mul 6 k0) ?_
    refine xe_iadd dX10_thing_36 (v := nI (s + (6 * k0))) (nI_add s (6 * k0)) ?_
    refine xi_istore_n (lv' := [some (.ref 0), some (.int (nI k0)), some (.int (nI 3)), some (.int (nI (s + (6 * k0))))]) dX10_thing_37 (by decide) rfl ?_
    refine xi_iload_n dX10_thing_38 rfl ?_
    refine xat 39 rfl ?_
    refine xn_if_ne 3 51 dX10_thing_39 (by decide) rfl (by omega) (fun h39 => ?_) (fun h39 => ?_)
    · skip
      refine xi_iload_n dX10_thing_51 rfl ?_
      refine xi_iconst (v := 1) dX10_thing_52 rfl ?_
      refine xn_icmp_ne 3 1 67 dX10_thing_53 (by decide) rfl rfl (by omega) (by omega) (fun h53 => ?_) (fun h53 => ?_)
      · skip
        refine xi_iload_n dX10_thing_67 rfl ?_
        refine xi_iconst (v := 2) dX10_thing_68 rfl ?_
        refine xn_icmp_ne 3 2 83 dX10_thing_69 (by decide) rfl rfl (by omega) (by omega) (fun h69 => ?_) (fun h69 => ?_)
        · skip
          refine xi_aload_n dX10_thing_83 rfl ?_
          refine xi_getR dX10_thing_84 fgX10_39 mm0 rfl ?_
          refine xi_iload_n dX10_thing_87 rfl ?_
          refine xi_iconst (v := 5) dX10_thing_88 rfl ?_
          refine xe_iadd dX10_thing_89 (v := nI (s + (6 * k0) + 5)) (nI_add (s + (6 * k0)) 5) ?_
          obtain ⟨o1, ho1⟩ : ∃ o, o = sB (Zf G A S0 now) k0 := ⟨_, rfl⟩
          refine xe_iald (v := xo o1) (s + (6 * k0) + 5) dX10_thing_90 mm5 (by decide) rfl (by omega) (by rw [ho1]; exact rmB hS (by omega)) ?_
          refine xi_iret (v := xo o1) dX10_thing_91 rfl ?_
          simp only [a_thing, ec0, ec1, h39, h53, h69] at h
          rw [ho1]
          exact h
        · omega
      · omega
    · omega

set_option maxHeartbeats 4000000 in
set_option maxRecDepth 100000 in
theorem mo_open {X : xX} {M : xM} {Q : Option Value → xM → Prop} (hX : wX X) (hC : RepM X M) (x0 : Int32) (h : Q (some (.int (a_open X x0))) M) : WP shM mX10_open 0 [some (.ref 0), some (.int x0)] [] M Q := by
  obtain ⟨G, S0, now, late, risk, A, L, sq, nl, rf, hr, lg, w, tp⟩ := X
  obtain ⟨hW, hw0, wn, wl, wr, wA_, wsq, wnl, wmo, wtk, wwt, wtp, wO0, wB0⟩ := id hX
  obtain ⟨b1, b2, b3, b4, b5, b6, b7, b8, b9, wmap, wlink, wk0, wk1, b10, b11, wword⟩ := id hW
  have nb : nl ≤ 2000 := by rw [wnl]; exact mcnt_le 2000
  obtain ⟨hG, hNS, hNA, hNL, hNH, hNE, hNQ, hNW, hNT, hNM⟩ := id hC
  obtain ⟨hno, hla, hri, hnl, hrf, hhr⟩ := id hNM
  obtain ⟨s, es⟩ : ∃ s, s = 112 * now := ⟨_, rfl⟩
  have hs : s ≤ 56000 := by omega
  have hS : RM G (Zf G A S0 now) M s := by rw [es]; exact hNS.1 now (Nat.le_refl _)
  have hw : wS G (Zf G A S0 now) := wS_Zf hW hw0 now
  rcases xix_cases x0 (n := gD G) (by omega) with ⟨ec0, hc0⟩ | ⟨k0, hk0, rfl, ec0⟩
  · skip
    refine xi_iload_n dX10_open_0 rfl ?_
    refine xi_iconst (v := 0) dX10_open_1 rfl ?_
    refine xi_aload_n dX10_open_2 rfl ?_
    refine xe_getI (v := nI (gD G)) dX10_open_3 fgX10_104 mm0 rfl (mg_D hG) ?_
    refine xi_iconst (v := 1) dX10_open_6 rfl ?_
    refine xi_isub dX10_open_7 ?_
    refine xi_callS [.int x0, .int 0, .int (nI (gD G) - 1)] [] dX10_open_8 zX10_in mlX10_137 rfl rfl rfl (Nat.le_of_ble_eq_true rfl) (Nat.le_of_ble_eq_true rfl) ⟨by decide, by decide⟩ ?_
    refine n_in1F (n := (gD G)) (by omega) hc0 ?_
    show WP _ _ 11 _ [.int (xb false)] _ _
    refine xb_if_eq false 34 dX10_open_11 (by decide) rfl (fun _ => ?_) (fun z => absurd z (by decide))
    refine xi_iconst (v := (-1)) dX10_open_34 rfl ?_
    refine xi_iret (v := (-1)) dX10_open_35 rfl ?_
    have e : a_open (G, S0, now, late, risk, A, L, sq, nl, rf, hr, lg, w, tp) x0 = -1 := by simp only [a_open, ec0]
    rw [e] at h
    exact h
  refine xi_iload_n dX10_open_0 rfl ?_
  refine xi_iconst (v := 0) dX10_open_1 rfl ?_
  refine xi_aload_n dX10_open_2 rfl ?_
  refine xe_getI (v := nI (gD G)) dX10_open_3 fgX10_104 mm0 rfl (mg_D hG) ?_
  refine xi_iconst (v := 1) dX10_open_6 rfl ?_
  refine xi_isub dX10_open_7 ?_
  refine xi_callS [.int (nI k0), .int 0, .int (nI (gD G) - 1)] [] dX10_open_8 zX10_in mlX10_137 rfl rfl rfl (Nat.le_of_ble_eq_true rfl) (Nat.le_of_ble_eq_true rfl) ⟨by decide, by decide⟩ ?_
  refine n_in1T (k := k0) (n := (gD G)) (by omega) (by omega) ?_
  show WP _ _ 11 _ [.int (xb true)] _ _
  refine xb_if_eq true 34 dX10_open_11 (by decide) rfl (fun z => absurd z (by decide)) (fun _ => ?_)
  refine xi_aload_n dX10_open_14 rfl ?_
  refine xi_getR dX10_open_15 fgX10_39 mm0 rfl ?_
  refine xi_bipush (v := 112) dX10_open_18 (by decide) ?_
  refine xi_aload_n dX10_open_20 rfl ?_
  refine xe_getI (v := nI now) dX10_open_21 fgX10_110 mm0 rfl hno ?_
  refine xe_imul dX10_open_24 (v := nI s) ((pk_mul 112 now).trans (congrArg nI es.symm)) ?_
  refine xi_bipush (v := 96) dX10_open_25 (by decide) ?_
  refine xe_iadd dX10_open_27 (v := nI (s + 96)) (nI_add s 96) ?_
  refine xi_iload_n dX10_open_28 rfl ?_
  refine xe_iadd dX10_open_29 (v := nI (s + 96 + k0)) (nI_add (s + 96) k0) ?_
  refine xat 30 rfl ?_
  refine xe_iald (v := sO (Zf G A S0 now) k0) (s + 96 + k0) dX10_open_30 mm5 (by decide) rfl (by omega) (rmO hS (by omega)) ?_
  refine xi_goto 35 dX10_open_31 (by decide) ?_
  refine xi_iret (v := sO (Zf G A S0 now) k0) dX10_open_35 rfl ?_
  simp only [a_open, ec0] at h
  exact h

set_option maxHeartbeats 4000000 in
set_option maxRecDepth 100000 in
theorem o_seesNow {G : xG} {S0 : xS} {now late risk : Nat} {A : Nat → Nat} {L : Nat → Bool} {sq : Nat → Nat} {nl : Nat} {rf hr : Int32} {lg : xE2} {w : xw} {tp : Nat → xT} {M : xM} {Q : Option Value → xM → Prop} (hX : wX (G, S0, now, late, risk, A, L, sq, nl, rf, hr, lg, w, tp)) (hC : RepM (G, S0, now, late, risk, A, L, sq, nl, rf, hr, lg, w, tp) M) {p k : Nat} (hp : p < gP G) (hk : k < gN G) (h : Q (some (.int (xb (mspot G (Zf G A S0 now) p k)))) M) : WP shM mX10_seesNow 0 [some (.ref 0), some (.int (nI p)), some (.int (nI k)), none] [] M Q := by
  obtain ⟨hW, hw0, wn, wl, wr, wA_, wsq, wnl, wmo, wtk, wwt, wtp, wO0, wB0⟩ := id hX
  obtain ⟨b1, b2, b3, b4, b5, b6, b7, b8, b9, wmap, wlink, wk0, wk1, b10, b11, wword⟩ := id hW
  have nb : nl ≤ 2000 := by rw [wnl]; exact mcnt_le 2000
  obtain ⟨hG, hNS, hNA, hNL, hNH, hNE, hNQ, hNW, hNT, hNM⟩ := id hC
  obtain ⟨hno, hla, hri, hnl, hrf, hhr⟩ := id hNM
  obtain ⟨s, es⟩ : ∃ s, s = 112 * now := ⟨_, rfl⟩
  have hs : s ≤ 56000 := by omega
  have hS : RM G (Zf G A S0 now) M s := by rw [es]; exact hNS.1 now (Nat.le_refl _)
  have hw : wS G (Zf G A S0 now) := wS_Zf hW hw0 now
  have hkp := wk0 p hp
  refine xi_bipush (v := 112) dX10_seesNow_0 (by decide) ?_
  refine xi_aload_n dX10_seesNow_2 rfl ?_
  refine xe_getI (v := nI now) dX10_seesNow_3 fgX10_110 mm0 rfl hno ?_
  refine xe_imul dX10_seesNow_6 (v := nI s) ((pk_mul 112 now).trans (congrArg nI es.symm)) ?_
  refine xi_istore_n (lv' := [some (.ref 0), some (.int (nI p)), some (.int (nI k)), some (.int (nI s))]) dX10_seesNow_7 (by decide) rfl ?_
  refine xi_aload_n dX10_seesNow_8 rfl ?_
  refine xi_iload_n dX10_seesNow_9 rfl ?_
  refine xi_iload_n dX10_seesNow_10 rfl ?_
  refine xi_callV [.int (nI s), .int (nI p)] [] dX10_seesNow_11 zX10_stands mlX10_161 mm0 rfl rfl rfl rfl rfl (Nat.le_of_ble_eq_true rfl) (Nat.le_of_ble_eq_true rfl) ⟨by decide, by decide⟩ ?_
  refine n_stands hW hG hs hS hw (n := p) (by omega) ?_
  show WP _ _ 14 _ [.int (xb (decide (0 < sL (Zf G A S0 now) p)))] _ _
  refine xb_if_eq (decide (0 < sL (Zf G A S0 now) p)) 31 dX10_seesNow_14 (by decide) rfl (fun h14 => ?_) (fun h14 => ?_)
  · skip
    refine xi_iconst (v := 0) dX10_seesNow_31 rfl ?_
    refine xi_zret (v := 0) dX10_seesNow_32 rfl (by decide) ?_
    rw [show mspot G (Zf G A S0 now) p k = false by unfold mspot; rw [h14]; rfl] at h
    exact h
  · have hl0 := of_decide_eq_true h14
    refine xi_aload_n dX10_seesNow_17 rfl ?_
    refine xi_iload_n dX10_seesNow_18 rfl ?_
    refine xi_iload_n dX10_seesNow_19 rfl ?_
    refine xi_iload_n dX10_seesNow_20 rfl ?_
    refine xi_callV [.int (nI s), .int (nI p), .int (nI k)] [] dX10_seesNow_21 zX10_thingSees mlX10_211 mm0 rfl rfl rfl rfl rfl (Nat.le_of_ble_eq_true rfl) (Nat.le_of_ble_eq_true rfl) ⟨by decide, by decide⟩ ?_
    refine n_tsees hW hG hs hS hw (n := p) (k := k) (by omega) (by omega) (by omega) ?_
    show WP _ _ 24 _ [.int (xb (msee G (Zf G A S0 now) (mpos (Zf G A S0 now) p) k (mrad G (Zf G A S0 now) p)))] _ _
    refine xb_if_eq (msee G (Zf G A S0 now) (mpos (Zf G A S0 now) p) k (mrad G (Zf G A S0 now) p)) 31 dX10_seesNow_24 (by decide) rfl (fun h24 => ?_) (fun h24 => ?_)
    · skip
      refine xi_iconst (v := 0) dX10_seesNow_31 rfl ?_
      refine xi_zret (v := 0) dX10_seesNow_32 rfl (by decide) ?_
      have hl := of_decide_eq_true h14
      rw [← mspot_r hp hl] at h
      rw [h24] at h
      exact h
    · skip
      refine xi_iconst (v := 1) dX10_seesNow_27 rfl ?_
      refine xi_goto 32 dX10_seesNow_28 (by decide) ?_
      refine xi_zret (v := 1) dX10_seesNow_32 rfl (by decide) ?_
      have hl := of_decide_eq_true h14
      rw [← mspot_r hp hl] at h
      rw [h24] at h
      exact h

set_option maxHeartbeats 4000000 in
set_option maxRecDepth 100000 in
theorem mo_sees {X : xX} {M : xM} {Q : Option Value → xM → Prop} (hX : wX X) (hC : RepM X M) (x0 : Int32) (x1 : Int32) (h : Q (some (.int (a_sees X x0 x1))) M) : WP shM mX10_sees 0 [some (.ref 0), some (.int x0), some (.int x1)] [] M Q := by
  obtain ⟨G, S0, now, late, risk, A, L, sq, nl, rf, hr, lg, w, tp⟩ := X
  obtain ⟨hW, hw0, wn, wl, wr, wA_, wsq, wnl, wmo, wtk, wwt, wtp, wO0, wB0⟩ := id hX
  obtain ⟨b1, b2, b3, b4, b5, b6, b7, b8, b9, wmap, wlink, wk0, wk1, b10, b11, wword⟩ := id hW
  have nb : nl ≤ 2000 := by rw [wnl]; exact mcnt_le 2000
  obtain ⟨hG, hNS, hNA, hNL, hNH, hNE, hNQ, hNW, hNT, hNM⟩ := id hC
  obtain ⟨hno, hla, hri, hnl, hrf, hhr⟩ := id hNM
  obtain ⟨s, es⟩ : ∃ s, s = 112 * now := ⟨_, rfl⟩
  have hs : s ≤ 56000 := by omega
  have hS : RM G (Zf G A S0 now) M s := by rw [es]; exact hNS.1 now (Nat.le_refl _)
  have hw : wS G (Zf G A S0 now) := wS_Zf hW hw0 now
  rcases xix_cases x0 (n := gP G) (by omega) with ⟨ec0, hc0⟩ | ⟨k0, hk0, rfl, ec0⟩
  · skip
    refine xi_aload_n dX10_sees_0 rfl ?_
    refine xi_iload_n dX10_sees_1 rfl ?_
    refine xi_callV [.int x0] [] dX10_sees_2 zX10_isPlayer mlX10_272 mm0 rfl rfl rfl rfl rfl (Nat.le_of_ble_eq_true rfl) (Nat.le_of_ble_eq_true rfl) ⟨by decide, by decide⟩ ?_
    refine n_isPF hW hG hc0 ?_
    show WP _ _ 5 _ [.int (xb false)] _ _
    refine xb_if_eq false 16 dX10_sees_5 (by decide) rfl (fun _ => ?_) (fun z => absurd z (by decide))
    refine xi_iconst (v := (-1)) dX10_sees_16 rfl ?_
    refine xi_goto 34 dX10_sees_17 (by decide) ?_
    refine xi_iret (v := (-1)) dX10_sees_34 rfl ?_
    have e : a_sees (G, S0, now, late, risk, A, L, sq, nl, rf, hr, lg, w, tp) x0 x1 = -1 := by simp only [a_sees, ec0]
    rw [e] at h
    exact h
  rcases xix_cases x1 (n := gN G) (by omega) with ⟨ec1, hc1⟩ | ⟨k1, hk1, rfl, ec1⟩
  · skip
    refine xi_aload_n dX10_sees_0 rfl ?_
    refine xi_iload_n dX10_sees_1 rfl ?_
    refine xi_callV [.int (nI k0)] [] dX10_sees_2 zX10_isPlayer mlX10_272 mm0 rfl rfl rfl rfl rfl (Nat.le_of_ble_eq_true rfl) (Nat.le_of_ble_eq_true rfl) ⟨by decide, by decide⟩ ?_
    refine n_isPT hW hG (k := k0) (by omega) ?_
    show WP _ _ 5 _ [.int (xb true)] _ _
    refine xb_if_eq true 16 dX10_sees_5 (by decide) rfl (fun z => absurd z (by decide)) (fun _ => ?_)
    refine xi_aload_n dX10_sees_8 rfl ?_
    refine xi_iload_n dX10_sees_9 rfl ?_
    refine xi_callV [.int x1] [] dX10_sees_10 zX10_isCell mlX10_141 mm0 rfl rfl rfl rfl rfl (Nat.le_of_ble_eq_true rfl) (Nat.le_of_ble_eq_true rfl) ⟨by decide, by decide⟩ ?_
    refine n_isCF hW hG hc1 ?_
    show WP _ _ 13 _ [.int (xb false)] _ _
    refine xb_if_ne false 20 dX10_sees_13 (by decide) rfl (fun z => absurd z (by decide)) (fun _ => ?_)
    refine xi_iconst (v := (-1)) dX10_sees_16 rfl ?_
    refine xi_goto 34 dX10_sees_17 (by decide) ?_
    refine xi_iret (v := (-1)) dX10_sees_34 rfl ?_
    have e : a_sees (G, S0, now, late, risk, A, L, sq, nl, rf, hr, lg, w, tp) (nI k0) x1 = -1 := by simp only [a_sees, ec0, ec1]
    rw [e] at h
    exact h
  refine xi_aload_n dX10_sees_0 rfl ?_
  refine xi_iload_n dX10_sees_1 rfl ?_
  refine xi_callV [.int (nI k0)] [] dX10_sees_2 zX10_isPlayer mlX10_272 mm0 rfl rfl rfl rfl rfl (Nat.le_of_ble_eq_true rfl) (Nat.le_of_ble_eq_true rfl) ⟨by decide, by decide⟩ ?_
  refine n_isPT hW hG (k := k0) (by omega) ?_
  show WP _ _ 5 _ [.int (xb true)] _ _
  refine xb_if_eq true 16 dX10_sees_5 (by decide) rfl (fun z => absurd z (by decide)) (fun _ => ?_)
  refine xi_aload_n dX10_sees_8 rfl ?_
  refine xi_iload_n dX10_sees_9 rfl ?_
  refine xi_callV [.int (nI k1)] [] dX10_sees_10 zX10_isCell mlX10_141 mm0 rfl rfl rfl rfl rfl (Nat.le_of_ble_eq_true rfl) (Nat.le_of_ble_eq_true rfl) ⟨by decide, by decide⟩ ?_
  refine n_isCT hW hG (k := k1) (by omega) ?_
  show WP _ _ 13 _ [.int (xb true)] _ _
  refine xb_if_ne true 20 dX10_sees_13 (by decide) rfl (fun _ => ?_) (fun z => absurd z (by decide))
  refine xi_aload_n dX10_sees_20 rfl ?_
  refine xi_iload_n dX10_sees_21 rfl ?_
  refine xi_iload_n dX10_sees_22 rfl ?_
  refine xi_callV [.int (nI k0), .int (nI k1)] [] dX10_sees_23 zX10_seesNow mlX10_275 mm0 rfl rfl rfl rfl rfl (Nat.le_of_ble_eq_true rfl) (Nat.le_of_ble_eq_true rfl) ⟨by decide, by decide⟩ ?_
  refine o_seesNow hX hC (p := k0) (k := k1) (by omega) (by omega) ?_
  show WP _ _ 26 _ [.int (xb (mspot G (Zf G A S0 now) k0 k1))] _ _
  refine xb_if_eq (mspot G (Zf G A S0 now) k0 k1) 33 dX10_sees_26 (by decide) rfl (fun h26 => ?_) (fun h26 => ?_)
  · skip
    refine xi_iconst (v := 0) dX10_sees_33 rfl ?_
    refine xi_iret (v := 0) dX10_sees_34 rfl ?_
    simp only [a_sees, ec0, ec1, h26] at h
    exact h
  · skip
    refine xi_iconst (v := 1) dX10_sees_29 rfl ?_
    refine xi_goto 34 dX10_sees_30 (by decide) ?_
    refine xi_iret (v := 1) dX10_sees_34 rfl ?_
    simp only [a_sees, ec0, ec1, h26] at h
    exact h

/-- eight for each thing that is told -/
theorem mtl_add {G : xG} {S : xS} {k : Nat} : ∀ (f n a b : Nat), mtl G S k n f (a + b) = a + mtl G S k n f b
  | 0, n, a, b => rfl
  | f + 1, n, a, b => by
    rw [mtl, mtl, ← mtl_add f (n + 1) a]
    congr 1
    split <;> omega

set_option maxHeartbeats 4000000 in
set_option maxRecDepth 100000 in
theorem ol_told {G : xG} {S0 : xS} {now late risk : Nat} {A : Nat → Nat} {L : Nat → Bool} {sq : Nat → Nat} {nl : Nat} {rf hr : Int32} {lg : xE2} {w : xw} {tp : Nat → xT} {M : xM} {Q : Option Value → xM → Prop} (hX : wX (G, S0, now, late, risk, A, L, sq, nl, rf, hr, lg, w, tp)) (hC : RepM (G, S0, now, late, risk, A, L, sq, nl, rf, hr, lg, w, tp) M) {s p k : Nat} (es : s = 112 * now) (hp : p < gP G) (hk : k < gN G) : ∀ (f n a : Nat), n + f = gT G → a ≤ n → Q (some (.int (nI (mlook G (Zf G A S0 now) k + mtl G (Zf G A S0 now) k n f (8 * a))))) M → WP shM mX10_toldOf 25 [some (.ref 0), some (.int (nI p)), some (.int (nI k)), some (.int (nI s)), some (.int (nI a)), some (.int (nI n))] [] M Q := by
  obtain ⟨hW, hw0, wn, wl, wr, wA_, wsq, wnl, wmo, wtk, wwt, wtp, wO0, wB0⟩ := id hX
  obtain ⟨b1, b2, b3, b4, b5, b6, b7, b8, b9, wmap, wlink, wk0, wk1, b10, b11, wword⟩ := id hW
  have nb : nl ≤ 2000 := by rw [wnl]; exact mcnt_le 2000
  obtain ⟨hG, hNS, hNA, hNL, hNH, hNE, hNQ, hNW, hNT, hNM⟩ := id hC
  obtain ⟨hno, hla, hri, hnl, hrf, hhr⟩ := id hNM
  have hs : s ≤ 56000 := by omega
  have hS : RM G (Zf G A S0 now) M s := by rw [es]; exact hNS.1 now (Nat.le_refl _)
  have hw : wS G (Zf G A S0 now) := wS_Zf hW hw0 now
  have hlk : mlook G (Zf G A S0 now) k ≤ 4 := mlook_le hW hk
  intro f
  induction f with
  | zero =>
    intro n a hf ha h
    refine xi_iload dX10_toldOf_25 rfl ?_
    refine xi_aload_n dX10_toldOf_27 rfl ?_
    refine xe_getI (v := nI (gT G)) dX10_toldOf_28 fgX10_107 mm0 rfl (mg_T hG) ?_
    refine xn_icmp_ge n (gT G) 61 dX10_toldOf_31 (by decide) rfl rfl (by omega) (by omega) (fun h31 => ?_) (fun z => absurd z (by omega))
    refine xi_aload_n dX10_toldOf_61 rfl ?_
    refine xi_iload_n dX10_toldOf_62 rfl ?_
    refine xi_iload_n dX10_toldOf_63 rfl ?_
    refine xi_callV [.int (nI s), .int (nI k)] [] dX10_toldOf_64 zX10_mapTold mlX10_226 mm0 rfl rfl rfl rfl rfl (Nat.le_of_ble_eq_true rfl) (Nat.le_of_ble_eq_true rfl) ⟨by decide, by decide⟩ ?_
    refine n_mapTold hW hG hs hS (k := k) (by omega) ?_
    show WP _ _ 67 _ [.int (nI (mlook G (Zf G A S0 now) k))] _ _
    refine xi_bipush (v := 8) dX10_toldOf_67 (by decide) ?_
    refine xi_iload dX10_toldOf_69 rfl ?_
    refine xe_imul dX10_toldOf_71 (v := nI (8 * a)) (pk_mul 8 a) ?_
    refine xe_iadd dX10_toldOf_72 (v := nI (mlook G (Zf G A S0 now) k + 8 * a)) (nI_add _ _) ?_
    refine xi_iret (v := nI (mlook G (Zf G A S0 now) k + 8 * a)) dX10_toldOf_73 rfl ?_
    exact h
  | succ f ih =>
    intro n a hf ha h
    rw [mtl] at h
    refine xi_iload dX10_toldOf_25 rfl ?_
    refine xi_aload_n dX10_toldOf_27 rfl ?_
    refine xe_getI (v := nI (gT G)) dX10_toldOf_28 fgX10_107 mm0 rfl (mg_T hG) ?_
    refine xn_icmp_ge n (gT G) 61 dX10_toldOf_31 (by decide) rfl rfl (by omega) (by omega) (fun z => absurd z (by omega)) (fun h31 => ?_)
    refine xi_iload dX10_toldOf_34 rfl ?_
    refine xi_aload_n dX10_toldOf_36 rfl ?_
    refine xi_iload_n dX10_toldOf_37 rfl ?_
    refine xi_iload dX10_toldOf_38 rfl ?_
    refine xi_iload_n dX10_toldOf_40 rfl ?_
    refine xi_callV [.int (nI s), .int (nI n), .int (nI k)] [.int (nI a)] dX10_toldOf_41 zX10_isTold mlX10_229 mm0 rfl rfl rfl rfl rfl (Nat.le_of_ble_eq_true rfl) (Nat.le_of_ble_eq_true rfl) ⟨by decide, by decide⟩ ?_
    refine n_isTold hW hG hs hS hw (n := n) (k := k) (by omega) (by omega) ?_
    show WP _ _ 44 _ [.int (xb (decide (¬ gkind G n = 4) && mat G (Zf G A S0 now) n k)), .int (nI a)] _ _
    refine xb_if_eq (decide (¬ gkind G n = 4) && mat G (Zf G A S0 now) n k) 51 dX10_toldOf_44 (by decide) rfl (fun h44 => ?_) (fun h44 => ?_)
    · skip
      refine xi_iconst (v := 0) dX10_toldOf_51 rfl ?_
      refine xe_iadd dX10_toldOf_52 (v := nI (a + 0)) (nI_add a 0) ?_
      refine xi_istore (lv' := [some (.ref 0), some (.int (nI p)), some (.int (nI k)), some (.int (nI s)), some (.int (nI (a + 0))), some (.int (nI n))]) dX10_toldOf_53 (by decide) rfl ?_
      refine xi_iinc (v := nI (n + 1)) (lv' := [some (.ref 0), some (.int (nI p)), some (.int (nI k)), some (.int (nI s)), some (.int (nI (a + 0))), some (.int (nI (n + 1)))]) dX10_toldOf_55 rfl (xinc n) (by decide) rfl ?_
      refine xi_goto 25 dX10_toldOf_58 (by decide) ?_
      rw [if_neg (by simpa using h44)] at h
      exact ih (n + 1) (a) (by omega) (by omega) h
    · skip
      refine xi_iconst (v := 1) dX10_toldOf_47 rfl ?_
      refine xi_goto 52 dX10_toldOf_48 (by decide) ?_
      refine xe_iadd dX10_toldOf_52 (v := nI (a + 1)) (nI_add a 1) ?_
      refine xi_istore (lv' := [some (.ref 0), some (.int (nI p)), some (.int (nI k)), some (.int (nI s)), some (.int (nI (a + 1))), some (.int (nI n))]) dX10_toldOf_53 (by decide) rfl ?_
      refine xi_iinc (v := nI (n + 1)) (lv' := [some (.ref 0), some (.int (nI p)), some (.int (nI k)), some (.int (nI s)), some (.int (nI (a + 1))), some (.int (nI (n + 1)))]) dX10_toldOf_55 rfl (xinc n) (by decide) rfl ?_
      refine xi_goto 25 dX10_toldOf_58 (by decide) ?_
      rw [if_pos (by simpa using h44)] at h
      exact ih (n + 1) (a + 1) (by omega) (by omega) (by rw [show 8 * (a + 1) = 8 * a + 8 by omega]; exact h)

set_option maxHeartbeats 4000000 in
set_option maxRecDepth 100000 in
theorem o_told {G : xG} {S0 : xS} {now late risk : Nat} {A : Nat → Nat} {L : Nat → Bool} {sq : Nat → Nat} {nl : Nat} {rf hr : Int32} {lg : xE2} {w : xw} {tp : Nat → xT} {M : xM} {Q : Option Value → xM → Prop} (hX : wX (G, S0, now, late, risk, A, L, sq, nl, rf, hr, lg, w, tp)) (hC : RepM (G, S0, now, late, risk, A, L, sq, nl, rf, hr, lg, w, tp) M) {p k : Nat} (hp : p < gP G) (hk : k < gN G) (h : Q (some (.int (xo (mtell G (Zf G A S0 now) p k)))) M) : WP shM mX10_toldOf 0 [some (.ref 0), some (.int (nI p)), some (.int (nI k)), none, none, none] [] M Q := by
  obtain ⟨hW, hw0, wn, wl, wr, wA_, wsq, wnl, wmo, wtk, wwt, wtp, wO0, wB0⟩ := id hX
  obtain ⟨b1, b2, b3, b4, b5, b6, b7, b8, b9, wmap, wlink, wk0, wk1, b10, b11, wword⟩ := id hW
  have nb : nl ≤ 2000 := by rw [wnl]; exact mcnt_le 2000
  obtain ⟨hG, hNS, hNA, hNL, hNH, hNE, hNQ, hNW, hNT, hNM⟩ := id hC
  obtain ⟨hno, hla, hri, hnl, hrf, hhr⟩ := id hNM
  obtain ⟨s, es⟩ : ∃ s, s = 112 * now := ⟨_, rfl⟩
  have hs : s ≤ 56000 := by omega
  have hS : RM G (Zf G A S0 now) M s := by rw [es]; exact hNS.1 now (Nat.le_refl _)
  have hw : wS G (Zf G A S0 now) := wS_Zf hW hw0 now
  refine xi_aload_n dX10_toldOf_0 rfl ?_
  refine xi_iload_n dX10_toldOf_1 rfl ?_
  refine xi_iload_n dX10_toldOf_2 rfl ?_
  refine xi_callV [.int (nI p), .int (nI k)] [] dX10_toldOf_3 zX10_seesNow mlX10_275 mm0 rfl rfl rfl rfl rfl (Nat.le_of_ble_eq_true rfl) (Nat.le_of_ble_eq_true rfl) ⟨by decide, by decide⟩ ?_
  refine o_seesNow hX hC (p := p) (k := k) (by omega) (by omega) ?_
  show WP _ _ 6 _ [.int (xb (mspot G (Zf G A S0 now) p k))] _ _
  refine xb_if_ne (mspot G (Zf G A S0 now) p k) 11 dX10_toldOf_6 (by decide) rfl (fun h6 => ?_) (fun h6 => ?_)
  · skip
    refine xi_bipush (v := 112) dX10_toldOf_11 (by decide) ?_
    refine xi_aload_n dX10_toldOf_13 rfl ?_
    refine xe_getI (v := nI now) dX10_toldOf_14 fgX10_110 mm0 rfl hno ?_
    refine xe_imul dX10_toldOf_17 (v := nI s) ((pk_mul 112 now).trans (congrArg nI es.symm)) ?_
    refine xi_istore_n (lv' := [some (.ref 0), some (.int (nI p)), some (.int (nI k)), some (.int (nI s)), none, none]) dX10_toldOf_18 (by decide) rfl ?_
    refine xi_iconst (v := 0) dX10_toldOf_19 rfl ?_
    refine xi_istore (lv' := [some (.ref 0), some (.int (nI p)), some (.int (nI k)), some (.int (nI s)), some (.int 0), none]) dX10_toldOf_20 (by decide) rfl ?_
    refine xi_iconst (v := 0) dX10_toldOf_22 rfl ?_
    refine xi_istore (lv' := [some (.ref 0), some (.int (nI p)), some (.int (nI k)), some (.int (nI s)), some (.int 0), some (.int 0)]) dX10_toldOf_23 (by decide) rfl ?_
    refine ol_told hX hC es hp hk (gT G) 0 0 (by omega) (by omega) ?_
    rw [show mtell G (Zf G A S0 now) p k = some (mtl G (Zf G A S0 now) k 0 (gT G) (mlook G (Zf G A S0 now) k)) by unfold mtell; rw [if_pos h6]] at h
    rw [show mtl G (Zf G A S0 now) k 0 (gT G) (mlook G (Zf G A S0 now) k) = mlook G (Zf G A S0 now) k + mtl G (Zf G A S0 now) k 0 (gT G) (8 * 0) from mtl_add _ _ _ 0] at h
    exact h
  · skip
    refine xi_iconst (v := (-1)) dX10_toldOf_9 rfl ?_
    refine xi_iret (v := (-1)) dX10_toldOf_10 rfl ?_
    rw [show mtell G (Zf G A S0 now) p k = none by unfold mtell; rw [h6]; rfl] at h
    exact h

set_option maxHeartbeats 4000000 in
set_option maxRecDepth 100000 in
theorem mo_told {X : xX} {M : xM} {Q : Option Value → xM → Prop} (hX : wX X) (hC : RepM X M) (x0 : Int32) (x1 : Int32) (h : Q (some (.int (a_told X x0 x1))) M) : WP shM mX10_told 0 [some (.ref 0), some (.int x0), some (.int x1)] [] M Q := by
  obtain ⟨G, S0, now, late, risk, A, L, sq, nl, rf, hr, lg, w, tp⟩ := X
  obtain ⟨hW, hw0, wn, wl, wr, wA_, wsq, wnl, wmo, wtk, wwt, wtp, wO0, wB0⟩ := id hX
  obtain ⟨b1, b2, b3, b4, b5, b6, b7, b8, b9, wmap, wlink, wk0, wk1, b10, b11, wword⟩ := id hW
  have nb : nl ≤ 2000 := by rw [wnl]; exact mcnt_le 2000
  obtain ⟨hG, hNS, hNA, hNL, hNH, hNE, hNQ, hNW, hNT, hNM⟩ := id hC
  obtain ⟨hno, hla, hri, hnl, hrf, hhr⟩ := id hNM
  obtain ⟨s, es⟩ : ∃ s, s = 112 * now := ⟨_, rfl⟩
  have hs : s ≤ 56000 := by omega
  have hS : RM G (Zf G A S0 now) M s := by rw [es]; exact hNS.1 now (Nat.le_refl _)
  have hw : wS G (Zf G A S0 now) := wS_Zf hW hw0 now
  rcases xix_cases x0 (n := gP G) (by omega) with ⟨ec0, hc0⟩ | ⟨k0, hk0, rfl, ec0⟩
  · skip
    refine xi_aload_n dX10_told_0 rfl ?_
    refine xi_iload_n dX10_told_1 rfl ?_
    refine xi_callV [.int x0] [] dX10_told_2 zX10_isPlayer mlX10_272 mm0 rfl rfl rfl rfl rfl (Nat.le_of_ble_eq_true rfl) (Nat.le_of_ble_eq_true rfl) ⟨by decide, by decide⟩ ?_
    refine n_isPF hW hG hc0 ?_
    show WP _ _ 5 _ [.int (xb false)] _ _
    refine xb_if_eq false 16 dX10_told_5 (by decide) rfl (fun _ => ?_) (fun z => absurd z (by decide))
    refine xi_iconst (v := (-1)) dX10_told_16 rfl ?_
    refine xi_goto 26 dX10_told_17 (by decide) ?_
    refine xi_iret (v := (-1)) dX10_told_26 rfl ?_
    have e : a_told (G, S0, now, late, risk, A, L, sq, nl, rf, hr, lg, w, tp) x0 x1 = -1 := by simp only [a_told, ec0]
    rw [e] at h
    exact h
  rcases xix_cases x1 (n := gN G) (by omega) with ⟨ec1, hc1⟩ | ⟨k1, hk1, rfl, ec1⟩
  · skip
    refine xi_aload_n dX10_told_0 rfl ?_
    refine xi_iload_n dX10_told_1 rfl ?_
    refine xi_callV [.int (nI k0)] [] dX10_told_2 zX10_isPlayer mlX10_272 mm0 rfl rfl rfl rfl rfl (Nat.le_of_ble_eq_true rfl) (Nat.le_of_ble_eq_true rfl) ⟨by decide, by decide⟩ ?_
    refine n_isPT hW hG (k := k0) (by omega) ?_
    show WP _ _ 5 _ [.int (xb true)] _ _
    refine xb_if_eq true 16 dX10_told_5 (by decide) rfl (fun z => absurd z (by decide)) (fun _ => ?_)
    refine xi_aload_n dX10_told_8 rfl ?_
    refine xi_iload_n dX10_told_9 rfl ?_
    refine xi_callV [.int x1] [] dX10_told_10 zX10_isCell mlX10_141 mm0 rfl rfl rfl rfl rfl (Nat.le_of_ble_eq_true rfl) (Nat.le_of_ble_eq_true rfl) ⟨by decide, by decide⟩ ?_
    refine n_isCF hW hG hc1 ?_
    show WP _ _ 13 _ [.int (xb false)] _ _
    refine xb_if_ne false 20 dX10_told_13 (by decide) rfl (fun z => absurd z (by decide)) (fun _ => ?_)
    refine xi_iconst (v := (-1)) dX10_told_16 rfl ?_
    refine xi_goto 26 dX10_told_17 (by decide) ?_
    refine xi_iret (v := (-1)) dX10_told_26 rfl ?_
    have e : a_told (G, S0, now, late, risk, A, L, sq, nl, rf, hr, lg, w, tp) (nI k0) x1 = -1 := by simp only [a_told, ec0, ec1]
    rw [e] at h
    exact h
  refine xi_aload_n dX10_told_0 rfl ?_
  refine xi_iload_n dX10_told_1 rfl ?_
  refine xi_callV [.int (nI k0)] [] dX10_told_2 zX10_isPlayer mlX10_272 mm0 rfl rfl rfl rfl rfl (Nat.le_of_ble_eq_true rfl) (Nat.le_of_ble_eq_true rfl) ⟨by decide, by decide⟩ ?_
  refine n_isPT hW hG (k := k0) (by omega) ?_
  show WP _ _ 5 _ [.int (xb true)] _ _
  refine xb_if_eq true 16 dX10_told_5 (by decide) rfl (fun z => absurd z (by decide)) (fun _ => ?_)
  refine xi_aload_n dX10_told_8 rfl ?_
  refine xi_iload_n dX10_told_9 rfl ?_
  refine xi_callV [.int (nI k1)] [] dX10_told_10 zX10_isCell mlX10_141 mm0 rfl rfl rfl rfl rfl (Nat.le_of_ble_eq_true rfl) (Nat.le_of_ble_eq_true rfl) ⟨by decide, by decide⟩ ?_
  refine n_isCT hW hG (k := k1) (by omega) ?_
  show WP _ _ 13 _ [.int (xb true)] _ _
  refine xb_if_ne true 20 dX10_told_13 (by decide) rfl (fun _ => ?_) (fun z => absurd z (by decide))
  refine xi_aload_n dX10_told_20 rfl ?_
  refine xi_iload_n dX10_told_21 rfl ?_
  refine xi_iload_n dX10_told_22 rfl ?_
  refine xi_callV [.int (nI k0), .int (nI k1)] [] dX10_told_23 zX10_toldOf mlX10_278 mm0 rfl rfl rfl rfl rfl (Nat.le_of_ble_eq_true rfl) (Nat.le_of_ble_eq_true rfl) ⟨by decide, by decide⟩ ?_
  refine o_told hX hC (p := k0) (k := k1) (by omega) (by omega) ?_
  show WP _ _ 26 _ [.int (xo (mtell G (Zf G A S0 now) k0 k1))] _ _
  refine xi_iret (v := xo (mtell G (Zf G A S0 now) k0 k1)) dX10_told_26 rfl ?_
  simp only [a_told, ec0, ec1] at h
  exact h

set_option maxHeartbeats 4000000 in
set_option maxRecDepth 100000 in
theorem mo_letter {X : xX} {M : xM} {Q : Option Value → xM → Prop} (hX : wX X) (hC : RepM X M) (x0 : Int32) (x1 : Int32) (h : Q (some (.int (a_letter X x0 x1))) M) : WP shM mX10_letter 0 [some (.ref 0), some (.int x0), some (.int x1)] [] M Q := by
  obtain ⟨G, S0, now, late, risk, A, L, sq, nl, rf, hr, lg, w, tp⟩ := X
  obtain ⟨hW, hw0, wn, wl, wr, wA_, wsq, wnl, wmo, wtk, wwt, wtp, wO0, wB0⟩ := id hX
  obtain ⟨b1, b2, b3, b4, b5, b6, b7, b8, b9, wmap, wlink, wk0, wk1, b10, b11, wword⟩ := id hW
  have nb : nl ≤ 2000 := by rw [wnl]; exact mcnt_le 2000
  obtain ⟨hG, hNS, hNA, hNL, hNH, hNE, hNQ, hNW, hNT, hNM⟩ := id hC
  obtain ⟨hno, hla, hri, hnl, hrf, hhr⟩ := id hNM
  obtain ⟨s, es⟩ : ∃ s, s = 112 * now := ⟨_, rfl⟩
  have hs : s ≤ 56000 := by omega
  have hS : RM G (Zf G A S0 now) M s := by rw [es]; exact hNS.1 now (Nat.le_refl _)
  have hw : wS G (Zf G A S0 now) := wS_Zf hW hw0 now
  rcases xix_cases x0 (n := gP G) (by omega) with ⟨ec0, hc0⟩ | ⟨k0, hk0, rfl, ec0⟩
  · skip
    refine xi_aload_n dX10_letter_0 rfl ?_
    refine xi_iload_n dX10_letter_1 rfl ?_
    refine xi_callV [.int x0] [] dX10_letter_2 zX10_isPlayer mlX10_272 mm0 rfl rfl rfl rfl rfl (Nat.le_of_ble_eq_true rfl) (Nat.le_of_ble_eq_true rfl) ⟨by decide, by decide⟩ ?_
    refine n_isPF hW hG hc0 ?_
    show WP _ _ 5 _ [.int (xb false)] _ _
    refine xb_if_eq false 28 dX10_letter_5 (by decide) rfl (fun _ => ?_) (fun z => absurd z (by decide))
    refine xi_iconst (v := (-1)) dX10_letter_28 rfl ?_
    refine xi_iret (v := (-1)) dX10_letter_29 rfl ?_
    have e : a_letter (G, S0, now, late, risk, A, L, sq, nl, rf, hr, lg, w, tp) x0 x1 = -1 := by simp only [a_letter, ec0]
    rw [e] at h
    exact h
  rcases xix_cases x1 (n := now + 1) (by omega) with ⟨ec1, hc1⟩ | ⟨k1, hk1, rfl, ec1⟩
  · skip
    refine xi_aload_n dX10_letter_0 rfl ?_
    refine xi_iload_n dX10_letter_1 rfl ?_
    refine xi_callV [.int (nI k0)] [] dX10_letter_2 zX10_isPlayer mlX10_272 mm0 rfl rfl rfl rfl rfl (Nat.le_of_ble_eq_true rfl) (Nat.le_of_ble_eq_true rfl) ⟨by decide, by decide⟩ ?_
    refine n_isPT hW hG (k := k0) (by omega) ?_
    show WP _ _ 5 _ [.int (xb true)] _ _
    refine xb_if_eq true 28 dX10_letter_5 (by decide) rfl (fun z => absurd z (by decide)) (fun _ => ?_)
    refine xi_aload_n dX10_letter_8 rfl ?_
    refine xi_iload_n dX10_letter_9 rfl ?_
    refine xi_callV [.int x1] [] dX10_letter_10 zX10_isNear mlX10_281 mm0 rfl rfl rfl rfl rfl (Nat.le_of_ble_eq_true rfl) (Nat.le_of_ble_eq_true rfl) ⟨by decide, by decide⟩ ?_
    refine o_nearF hX hC hc1 ?_
    show WP _ _ 13 _ [.int (xb false)] _ _
    refine xb_if_eq false 28 dX10_letter_13 (by decide) rfl (fun _ => ?_) (fun z => absurd z (by decide))
    refine xi_iconst (v := (-1)) dX10_letter_28 rfl ?_
    refine xi_iret (v := (-1)) dX10_letter_29 rfl ?_
    have e : a_letter (G, S0, now, late, risk, A, L, sq, nl, rf, hr, lg, w, tp) (nI k0) x1 = -1 := by simp only [a_letter, ec0, ec1]
    rw [e] at h
    exact h
  refine xi_aload_n dX10_letter_0 rfl ?_
  refine xi_iload_n dX10_letter_1 rfl ?_
  refine xi_callV [.int (nI k0)] [] dX10_letter_2 zX10_isPlayer mlX10_272 mm0 rfl rfl rfl rfl rfl (Nat.le_of_ble_eq_true rfl) (Nat.le_of_ble_eq_true rfl) ⟨by decide, by decide⟩ ?_
  refine n_isPT hW hG (k := k0) (by omega) ?_
  show WP _ _ 5 _ [.int (xb true)] _ _
  refine xb_if_eq true 28 dX10_letter_5 (by decide) rfl (fun z => absurd z (by decide)) (fun _ => ?_)
  refine xi_aload_n dX10_letter_8 rfl ?_
  refine xi_iload_n dX10_letter_9 rfl ?_
  refine xi_callV [.int (nI k1)] [] dX10_letter_10 zX10_isNear mlX10_281 mm0 rfl rfl rfl rfl rfl (Nat.le_of_ble_eq_true rfl) (Nat.le_of_ble_eq_true rfl) ⟨by decide, by decide⟩ ?_
  refine o_nearT hX hC (k := k1) (by omega) ?_
  show WP _ _ 13 _ [.int (xb (decide (now ≤ k1 + 8)))] _ _
  refine xb_if_eq (decide (now ≤ k1 + 8)) 28 dX10_letter_13 (by decide) rfl (fun h13 => ?_) (fun h13 => ?_)
  · skip
    refine xi_iconst (v := (-1)) dX10_letter_28 rfl ?_
    refine xi_iret (v := (-1)) dX10_letter_29 rfl ?_
    simp only [a_letter, ec0, ec1] at h
    rw [if_neg (of_decide_eq_false h13)] at h
    exact h
  · skip
    refine xi_aload_n dX10_letter_16 rfl ?_
    refine xi_bipush (v := 112) dX10_letter_17 (by decide) ?_
    refine xi_iload_n dX10_letter_19 rfl ?_
    obtain ⟨st, est⟩ : ∃ st, st = 112 * k1 := ⟨_, rfl⟩
    have hSt : RM G (Zf G A S0 k1) M st := by rw [est]; exact hNS.1 k1 (by omega)
    have hwt : wS G (Zf G A S0 k1) := wS_Zf hW hw0 k1
    have hst : st ≤ 56000 := by omega
    refine xe_imul dX10_letter_20 (v := nI st) ((pk_mul 112 k1).trans (congrArg nI est.symm)) ?_
    refine xi_iload_n dX10_letter_21 rfl ?_
    refine xi_callV [.int (nI st), .int (nI k0)] [] dX10_letter_22 zX10_letterOf mlX10_284 mm0 rfl rfl rfl rfl rfl (Nat.le_of_ble_eq_true rfl) (Nat.le_of_ble_eq_true rfl) ⟨by decide, by decide⟩ ?_
    refine n_letter hW hG hst hSt hwt (p := k0) (by omega) ?_
    show WP _ _ 25 _ [.int (mletter G (Zf G A S0 k1) k0)] _ _
    refine xi_goto 29 dX10_letter_25 (by decide) ?_
    refine xi_iret (v := (mletter G (Zf G A S0 k1) k0)) dX10_letter_29 rfl ?_
    simp only [a_letter, ec0, ec1] at h
    rw [if_pos (of_decide_eq_true h13)] at h
    exact h

set_option maxHeartbeats 4000000 in
set_option maxRecDepth 100000 in
theorem mo_digest {X : xX} {M : xM} {Q : Option Value → xM → Prop} (hX : wX X) (hC : RepM X M) (x0 : Int32) (h : Q (some (.int (a_digest X x0))) M) : WP shM mX10_digest 0 [some (.ref 0), some (.int x0)] [] M Q := by
  obtain ⟨G, S0, now, late, risk, A, L, sq, nl, rf, hr, lg, w, tp⟩ := X
  obtain ⟨hW, hw0, wn, wl, wr, wA_, wsq, wnl, wmo, wtk, wwt, wtp, wO0, wB0⟩ := id hX
  obtain ⟨b1, b2, b3, b4, b5, b6, b7, b8, b9, wmap, wlink, wk0, wk1, b10, b11, wword⟩ := id hW
  have nb : nl ≤ 2000 := by rw [wnl]; exact mcnt_le 2000
  obtain ⟨hG, hNS, hNA, hNL, hNH, hNE, hNQ, hNW, hNT, hNM⟩ := id hC
  obtain ⟨hno, hla, hri, hnl, hrf, hhr⟩ := id hNM
  obtain ⟨s, es⟩ : ∃ s, s = 112 * now := ⟨_, rfl⟩
  have hs : s ≤ 56000 := by omega
  have hS : RM G (Zf G A S0 now) M s := by rw [es]; exact hNS.1 now (Nat.le_refl _)
  have hw : wS G (Zf G A S0 now) := wS_Zf hW hw0 now
  rcases xix_cases x0 (n := now + 1) (by omega) with ⟨ec0, hc0⟩ | ⟨k0, hk0, rfl, ec0⟩
  · skip
    refine xi_aload_n dX10_digest_0 rfl ?_
    refine xi_iload_n dX10_digest_1 rfl ?_
    refine xi_callV [.int x0] [] dX10_digest_2 zX10_isNear mlX10_281 mm0 rfl rfl rfl rfl rfl (Nat.le_of_ble_eq_true rfl) (Nat.le_of_ble_eq_true rfl) ⟨by decide, by decide⟩ ?_
    refine o_nearF hX hC hc0 ?_
    show WP _ _ 5 _ [.int (xb false)] _ _
    refine xb_if_eq false 19 dX10_digest_5 (by decide) rfl (fun _ => ?_) (fun z => absurd z (by decide))
    refine xi_iconst (v := (-1)) dX10_digest_19 rfl ?_
    refine xi_iret (v := (-1)) dX10_digest_20 rfl ?_
    have e : a_digest (G, S0, now, late, risk, A, L, sq, nl, rf, hr, lg, w, tp) x0 = -1 := by simp only [a_digest, ec0]
    rw [e] at h
    exact h
  refine xi_aload_n dX10_digest_0 rfl ?_
  refine xi_iload_n dX10_digest_1 rfl ?_
  refine xi_callV [.int (nI k0)] [] dX10_digest_2 zX10_isNear mlX10_281 mm0 rfl rfl rfl rfl rfl (Nat.le_of_ble_eq_true rfl) (Nat.le_of_ble_eq_true rfl) ⟨by decide, by decide⟩ ?_
  refine o_nearT hX hC (k := k0) (by omega) ?_
  show WP _ _ 5 _ [.int (xb (decide (now ≤ k0 + 8)))] _ _
  refine xb_if_eq (decide (now ≤ k0 + 8)) 19 dX10_digest_5 (by decide) rfl (fun h5 => ?_) (fun h5 => ?_)
  · skip
    refine xi_iconst (v := (-1)) dX10_digest_19 rfl ?_
    refine xi_iret (v := (-1)) dX10_digest_20 rfl ?_
    simp only [a_digest, ec0] at h
    rw [if_neg (of_decide_eq_false h5)] at h
    exact h
  · skip
    refine xi_aload_n dX10_digest_8 rfl ?_
    refine xi_bipush (v := 112) dX10_digest_9 (by decide) ?_
    refine xi_iload_n dX10_digest_11 rfl ?_
    obtain ⟨st, est⟩ : ∃ st, st = 112 * k0 := ⟨_, rfl⟩
    have hSt : RM G (Zf G A S0 k0) M st := by rw [est]; exact hNS.1 k0 (by omega)
    have hwt : wS G (Zf G A S0 k0) := wS_Zf hW hw0 k0
    have hst : st ≤ 56000 := by omega
    refine xe_imul dX10_digest_12 (v := nI st) ((pk_mul 112 k0).trans (congrArg nI est.symm)) ?_
    refine xi_callV [.int (nI st)] [] dX10_digest_13 zX10_digestOf mlX10_287 mm0 rfl rfl rfl rfl rfl (Nat.le_of_ble_eq_true rfl) (Nat.le_of_ble_eq_true rfl) ⟨by decide, by decide⟩ ?_
    refine n_digest hW hG hst hSt hwt ?_
    show WP _ _ 16 _ [.int (mdig G (Zf G A S0 k0))] _ _
    refine xi_goto 20 dX10_digest_16 (by decide) ?_
    refine xi_iret (v := (mdig G (Zf G A S0 k0))) dX10_digest_20 rfl ?_
    simp only [a_digest, ec0] at h
    rw [if_pos (of_decide_eq_true h5)] at h
    exact h

set_option maxHeartbeats 4000000 in
set_option maxRecDepth 100000 in
theorem mo_replay {X : xX} {M : xM} {Q : Option Value → xM → Prop} (hX : wX X) (hC : RepM X M) (x0 : Int32) (h : Q (some (.int (a_replay X x0))) M) : WP shM mX10_replay 0 [some (.ref 0), some (.int x0)] [] M Q := by
  obtain ⟨G, S0, now, late, risk, A, L, sq, nl, rf, hr, lg, w, tp⟩ := X
  obtain ⟨hW, hw0, wn, wl, wr, wA_, wsq, wnl, wmo, wtk, wwt, wtp, wO0, wB0⟩ := id hX
  obtain ⟨b1, b2, b3, b4, b5, b6, b7, b8, b9, wmap, wlink, wk0, wk1, b10, b11, wword⟩ := id hW
  have nb : nl ≤ 2000 := by rw [wnl]; exact mcnt_le 2000
  obtain ⟨hG, hNS, hNA, hNL, hNH, hNE, hNQ, hNW, hNT, hNM⟩ := id hC
  obtain ⟨hno, hla, hri, hnl, hrf, hhr⟩ := id hNM
  obtain ⟨s, es⟩ : ∃ s, s = 112 * now := ⟨_, rfl⟩
  have hs : s ≤ 56000 := by omega
  have hS : RM G (Zf G A S0 now) M s := by rw [es]; exact hNS.1 now (Nat.le_refl _)
  have hw : wS G (Zf G A S0 now) := wS_Zf hW hw0 now
  rcases xix_cases x0 (n := now + 1) (by omega) with ⟨ec0, hc0⟩ | ⟨k0, hk0, rfl, ec0⟩
  · skip
    refine xi_iload_n dX10_replay_0 rfl ?_
    refine xi_iconst (v := 0) dX10_replay_1 rfl ?_
    refine xi_aload_n dX10_replay_2 rfl ?_
    refine xe_getI (v := nI now) dX10_replay_3 fgX10_110 mm0 rfl hno ?_
    refine xi_callS [.int x0, .int 0, .int (nI now)] [] dX10_replay_6 zX10_in mlX10_137 rfl rfl rfl (Nat.le_of_ble_eq_true rfl) (Nat.le_of_ble_eq_true rfl) ⟨by decide, by decide⟩ ?_
    refine n_inF (l := 0) (r := now) (at_rg (by omega) hc0 (by omega)) ?_
    show WP _ _ 9 _ [.int (xb false)] _ _
    refine xb_if_eq false 23 dX10_replay_9 (by decide) rfl (fun _ => ?_) (fun z => absurd z (by decide))
    refine xi_iconst (v := (-1)) dX10_replay_23 rfl ?_
    refine xi_iret (v := (-1)) dX10_replay_24 rfl ?_
    have e : a_replay (G, S0, now, late, risk, A, L, sq, nl, rf, hr, lg, w, tp) x0 = -1 := by simp only [a_replay, ec0]
    rw [e] at h
    exact h
  refine xi_iload_n dX10_replay_0 rfl ?_
  refine xi_iconst (v := 0) dX10_replay_1 rfl ?_
  refine xi_aload_n dX10_replay_2 rfl ?_
  refine xe_getI (v := nI now) dX10_replay_3 fgX10_110 mm0 rfl hno ?_
  refine xi_callS [.int (nI k0), .int 0, .int (nI now)] [] dX10_replay_6 zX10_in mlX10_137 rfl rfl rfl (Nat.le_of_ble_eq_true rfl) (Nat.le_of_ble_eq_true rfl) ⟨by decide, by decide⟩ ?_
  refine n_inT (k := k0) (l := 0) (r := now) (by omega) (by omega) (by omega) ?_
  show WP _ _ 9 _ [.int (xb true)] _ _
  refine xb_if_eq true 23 dX10_replay_9 (by decide) rfl (fun z => absurd z (by decide)) (fun _ => ?_)
  refine xi_aload_n dX10_replay_12 rfl ?_
  refine xi_bipush (v := 112) dX10_replay_13 (by decide) ?_
  refine xi_iload_n dX10_replay_15 rfl ?_
  obtain ⟨st, est⟩ : ∃ st, st = 112 * k0 := ⟨_, rfl⟩
  have hSt : RM G (Zf G A S0 k0) M st := by rw [est]; exact hNS.1 k0 (by omega)
  have hwt : wS G (Zf G A S0 k0) := wS_Zf hW hw0 k0
  have hst : st ≤ 56000 := by omega
  refine xe_imul dX10_replay_16 (v := nI st) ((pk_mul 112 k0).trans (congrArg nI est.symm)) ?_
  refine xi_callV [.int (nI st)] [] dX10_replay_17 zX10_digestOf mlX10_287 mm0 rfl rfl rfl rfl rfl (Nat.le_of_ble_eq_true rfl) (Nat.le_of_ble_eq_true rfl) ⟨by decide, by decide⟩ ?_
  refine n_digest hW hG hst hSt hwt ?_
  show WP _ _ 20 _ [.int (mdig G (Zf G A S0 k0))] _ _
  refine xi_goto 24 dX10_replay_20 (by decide) ?_
  refine xi_iret (v := (mdig G (Zf G A S0 k0))) dX10_replay_24 rfl ?_
  simp only [a_replay, ec0] at h
  exact h

set_option maxHeartbeats 4000000 in
set_option maxRecDepth 100000 in
theorem mo_act {X : xX} {M : xM} {Q : Option Value → xM → Prop} (hX : wX X) (hC : RepM X M) (x0 : Int32) (x1 : Int32) (h : Q (some (.int (a_act X x0 x1))) M) : WP shM mX10_act 0 [some (.ref 0), some (.int x0), some (.int x1)] [] M Q := by
  obtain ⟨G, S0, now, late, risk, A, L, sq, nl, rf, hr, lg, w, tp⟩ := X
  obtain ⟨hW, hw0, wn, wl, wr, wA_, wsq, wnl, wmo, wtk, wwt, wtp, wO0, wB0⟩ := id hX
  obtain ⟨b1, b2, b3, b4, b5, b6, b7, b8, b9, wmap, wlink, wk0, wk1, b10, b11, wword⟩ := id hW
  have nb : nl ≤ 2000 := by rw [wnl]; exact mcnt_le 2000
  obtain ⟨hG, hNS, hNA, hNL, hNH, hNE, hNQ, hNW, hNT, hNM⟩ := id hC
  obtain ⟨hno, hla, hri, hnl, hrf, hhr⟩ := id hNM
  obtain ⟨s, es⟩ : ∃ s, s = 112 * now := ⟨_, rfl⟩
  have hs : s ≤ 56000 := by omega
  have hS : RM G (Zf G A S0 now) M s := by rw [es]; exact hNS.1 now (Nat.le_refl _)
  have hw : wS G (Zf G A S0 now) := wS_Zf hW hw0 now
  rcases xix_cases x0 (n := 500) (by omega) with ⟨ec0, hc0⟩ | ⟨k0, hk0, rfl, ec0⟩
  · skip
    refine xi_iload_n dX10_act_0 rfl ?_
    refine xi_iconst (v := 0) dX10_act_1 rfl ?_
    refine xi_sipush (v := 499) dX10_act_2 (by decide) ?_
    refine xi_callS [.int x0, .int 0, .int 499] [] dX10_act_5 zX10_in mlX10_137 rfl rfl rfl (Nat.le_of_ble_eq_true rfl) (Nat.le_of_ble_eq_true rfl) ⟨by decide, by decide⟩ ?_
    refine n_inF (l := 0) (r := 499) (at_rg (by omega) hc0 (by omega)) ?_
    show WP _ _ 8 _ [.int (xb false)] _ _
    refine xb_if_eq false 32 dX10_act_8 (by decide) rfl (fun _ => ?_) (fun z => absurd z (by decide))
    refine xi_iconst (v := (-1)) dX10_act_32 rfl ?_
    refine xi_iret (v := (-1)) dX10_act_33 rfl ?_
    have e : a_act (G, S0, now, late, risk, A, L, sq, nl, rf, hr, lg, w, tp) x0 x1 = -1 := by simp only [a_act, ec0]
    rw [e] at h
    exact h
  rcases xix_cases x1 (n := gP G) (by omega) with ⟨ec1, hc1⟩ | ⟨k1, hk1, rfl, ec1⟩
  · skip
    refine xi_iload_n dX10_act_0 rfl ?_
    refine xi_iconst (v := 0) dX10_act_1 rfl ?_
    refine xi_sipush (v := 499) dX10_act_2 (by decide) ?_
    refine xi_callS [.int (nI k0), .int 0, .int 499] [] dX10_act_5 zX10_in mlX10_137 rfl rfl rfl (Nat.le_of_ble_eq_true rfl) (Nat.le_of_ble_eq_true rfl) ⟨by decide, by decide⟩ ?_
    refine n_inT (k := k0) (l := 0) (r := 499) (by omega) (by omega) (by omega) ?_
    show WP _ _ 8 _ [.int (xb true)] _ _
    refine xb_if_eq true 32 dX10_act_8 (by decide) rfl (fun z => absurd z (by decide)) (fun _ => ?_)
    refine xi_aload_n dX10_act_11 rfl ?_
    refine xi_iload_n dX10_act_12 rfl ?_
    refine xi_callV [.int x1] [] dX10_act_13 zX10_isPlayer mlX10_272 mm0 rfl rfl rfl rfl rfl (Nat.le_of_ble_eq_true rfl) (Nat.le_of_ble_eq_true rfl) ⟨by decide, by decide⟩ ?_
    refine n_isPF hW hG hc1 ?_
    show WP _ _ 16 _ [.int (xb false)] _ _
    refine xb_if_eq false 32 dX10_act_16 (by decide) rfl (fun _ => ?_) (fun z => absurd z (by decide))
    refine xi_iconst (v := (-1)) dX10_act_32 rfl ?_
    refine xi_iret (v := (-1)) dX10_act_33 rfl ?_
    have e : a_act (G, S0, now, late, risk, A, L, sq, nl, rf, hr, lg, w, tp) (nI k0) x1 = -1 := by simp only [a_act, ec0, ec1]
    rw [e] at h
    exact h
  refine xi_iload_n dX10_act_0 rfl ?_
  refine xi_iconst (v := 0) dX10_act_1 rfl ?_
  refine xi_sipush (v := 499) dX10_act_2 (by decide) ?_
  refine xi_callS [.int (nI k0), .int 0, .int 499] [] dX10_act_5 zX10_in mlX10_137 rfl rfl rfl (Nat.le_of_ble_eq_true rfl) (Nat.le_of_ble_eq_true rfl) ⟨by decide, by decide⟩ ?_
  refine n_inT (k := k0) (l := 0) (r := 499) (by omega) (by omega) (by omega) ?_
  show WP _ _ 8 _ [.int (xb true)] _ _
  refine xb_if_eq true 32 dX10_act_8 (by decide) rfl (fun z => absurd z (by decide)) (fun _ => ?_)
  refine xi_aload_n dX10_act_11 rfl ?_
  refine xi_iload_n dX10_act_12 rfl ?_
  refine xi_callV [.int (nI k1)] [] dX10_act_13 zX10_isPlayer mlX10_272 mm0 rfl rfl rfl rfl rfl (Nat.le_of_ble_eq_true rfl) (Nat.le_of_ble_eq_true rfl) ⟨by decide, by decide⟩ ?_
  refine n_isPT hW hG (k := k1) (by omega) ?_
  show WP _ _ 16 _ [.int (xb true)] _ _
  refine xb_if_eq true 32 dX10_act_16 (by decide) rfl (fun z => absurd z (by decide)) (fun _ => ?_)
  refine xi_aload_n dX10_act_19 rfl ?_
  refine xi_getR dX10_act_20 fgX10_42 mm0 rfl ?_
  refine xi_iconst (v := 4) dX10_act_23 rfl ?_
  refine xi_iload_n dX10_act_24 rfl ?_
  refine xe_imul dX10_act_25 (v := nI (4 * k0)) (pk_mul 4 k0) ?_
  refine xi_iload_n dX10_act_26 rfl ?_
  refine xe_iadd dX10_act_27 (v := nI (4 * k0 + k1)) (nI_add (4 * k0) k1) ?_
  refine xe_iald (v := nI (A (4 * k0 + k1))) (4 * k0 + k1) dX10_act_28 mm6 (by decide) rfl (by omega) (hNA (4 * k0 + k1) (by omega)) ?_
  refine xi_goto 33 dX10_act_29 (by decide) ?_
  refine xi_iret (v := nI (A (4 * k0 + k1))) dX10_act_33 rfl ?_
  simp only [a_act, ec0, ec1] at h
  exact h

set_option maxHeartbeats 4000000 in
set_option maxRecDepth 100000 in
theorem mo_hit {X : xX} {M : xM} {Q : Option Value → xM → Prop} (hX : wX X) (hC : RepM X M) (x0 : Int32) (x1 : Int32) (h : Q (some (.int (a_hit X x0 x1))) M) : WP shM mX10_hit 0 [some (.ref 0), some (.int x0), some (.int x1)] [] M Q := by
  obtain ⟨G, S0, now, late, risk, A, L, sq, nl, rf, hr, lg, w, tp⟩ := X
  obtain ⟨hW, hw0, wn, wl, wr, wA_, wsq, wnl, wmo, wtk, wwt, wtp, wO0, wB0⟩ := id hX
  obtain ⟨b1, b2, b3, b4, b5, b6, b7, b8, b9, wmap, wlink, wk0, wk1, b10, b11, wword⟩ := id hW
  have nb : nl ≤ 2000 := by rw [wnl]; exact mcnt_le 2000
  obtain ⟨hG, hNS, hNA, hNL, hNH, hNE, hNQ, hNW, hNT, hNM⟩ := id hC
  obtain ⟨hno, hla, hri, hnl, hrf, hhr⟩ := id hNM
  obtain ⟨s, es⟩ : ∃ s, s = 112 * now := ⟨_, rfl⟩
  have hs : s ≤ 56000 := by omega
  have hS : RM G (Zf G A S0 now) M s := by rw [es]; exact hNS.1 now (Nat.le_refl _)
  have hw : wS G (Zf G A S0 now) := wS_Zf hW hw0 now
  rcases xix_cases x0 (n := now) (by omega) with ⟨ec0, hc0⟩ | ⟨k0, hk0, rfl, ec0⟩
  · skip
    refine xi_iload_n dX10_hit_0 rfl ?_
    refine xi_iconst (v := 0) dX10_hit_1 rfl ?_
    refine xi_aload_n dX10_hit_2 rfl ?_
    refine xe_getI (v := nI now) dX10_hit_3 fgX10_110 mm0 rfl hno ?_
    refine xi_iconst (v := 1) dX10_hit_6 rfl ?_
    refine xi_isub dX10_hit_7 ?_
    refine xi_callS [.int x0, .int 0, .int (nI now - 1)] [] dX10_hit_8 zX10_in mlX10_137 rfl rfl rfl (Nat.le_of_ble_eq_true rfl) (Nat.le_of_ble_eq_true rfl) ⟨by decide, by decide⟩ ?_
    refine n_in1F (n := now) (by omega) hc0 ?_
    show WP _ _ 11 _ [.int (xb false)] _ _
    refine xb_if_eq false 35 dX10_hit_11 (by decide) rfl (fun _ => ?_) (fun z => absurd z (by decide))
    refine xi_iconst (v := (-1)) dX10_hit_35 rfl ?_
    refine xi_iret (v := (-1)) dX10_hit_36 rfl ?_
    have e : a_hit (G, S0, now, late, risk, A, L, sq, nl, rf, hr, lg, w, tp) x0 x1 = -1 := by simp only [a_hit, ec0]
    rw [e] at h
    exact h
  rcases xix_cases x1 (n := gP G) (by omega) with ⟨ec1, hc1⟩ | ⟨k1, hk1, rfl, ec1⟩
  · skip
    refine xi_iload_n dX10_hit_0 rfl ?_
    refine xi_iconst (v := 0) dX10_hit_1 rfl ?_
    refine xi_aload_n dX10_hit_2 rfl ?_
    refine xe_getI (v := nI now) dX10_hit_3 fgX10_110 mm0 rfl hno ?_
    refine xi_iconst (v := 1) dX10_hit_6 rfl ?_
    refine xi_isub dX10_hit_7 ?_
    refine xi_callS [.int (nI k0), .int 0, .int (nI now - 1)] [] dX10_hit_8 zX10_in mlX10_137 rfl rfl rfl (Nat.le_of_ble_eq_true rfl) (Nat.le_of_ble_eq_true rfl) ⟨by decide, by decide⟩ ?_
    refine n_in1T (k := k0) (n := now) (by omega) (by omega) ?_
    show WP _ _ 11 _ [.int (xb true)] _ _
    refine xb_if_eq true 35 dX10_hit_11 (by decide) rfl (fun z => absurd z (by decide)) (fun _ => ?_)
    refine xi_aload_n dX10_hit_14 rfl ?_
    refine xi_iload_n dX10_hit_15 rfl ?_
    refine xi_callV [.int x1] [] dX10_hit_16 zX10_isPlayer mlX10_272 mm0 rfl rfl rfl rfl rfl (Nat.le_of_ble_eq_true rfl) (Nat.le_of_ble_eq_true rfl) ⟨by decide, by decide⟩ ?_
    refine n_isPF hW hG hc1 ?_
    show WP _ _ 19 _ [.int (xb false)] _ _
    refine xb_if_eq false 35 dX10_hit_19 (by decide) rfl (fun _ => ?_) (fun z => absurd z (by decide))
    refine xi_iconst (v := (-1)) dX10_hit_35 rfl ?_
    refine xi_iret (v := (-1)) dX10_hit_36 rfl ?_
    have e : a_hit (G, S0, now, late, risk, A, L, sq, nl, rf, hr, lg, w, tp) (nI k0) x1 = -1 := by simp only [a_hit, ec0, ec1]
    rw [e] at h
    exact h
  refine xi_iload_n dX10_hit_0 rfl ?_
  refine xi_iconst (v := 0) dX10_hit_1 rfl ?_
  refine xi_aload_n dX10_hit_2 rfl ?_
  refine xe_getI (v := nI now) dX10_hit_3 fgX10_110 mm0 rfl hno ?_
  refine xi_iconst (v := 1) dX10_hit_6 rfl ?_
  refine xi_isub dX10_hit_7 ?_
  refine xi_callS [.int (nI k0), .int 0, .int (nI now - 1)] [] dX10_hit_8 zX10_in mlX10_137 rfl rfl rfl (Nat.le_of_ble_eq_true rfl) (Nat.le_of_ble_eq_true rfl) ⟨by decide, by decide⟩ ?_
  refine n_in1T (k := k0) (n := now) (by omega) (by omega) ?_
  show WP _ _ 11 _ [.int (xb true)] _ _
  refine xb_if_eq true 35 dX10_hit_11 (by decide) rfl (fun z => absurd z (by decide)) (fun _ => ?_)
  refine xi_aload_n dX10_hit_14 rfl ?_
  refine xi_iload_n dX10_hit_15 rfl ?_
  refine xi_callV [.int (nI k1)] [] dX10_hit_16 zX10_isPlayer mlX10_272 mm0 rfl rfl rfl rfl rfl (Nat.le_of_ble_eq_true rfl) (Nat.le_of_ble_eq_true rfl) ⟨by decide, by decide⟩ ?_
  refine n_isPT hW hG (k := k1) (by omega) ?_
  show WP _ _ 19 _ [.int (xb true)] _ _
  refine xb_if_eq true 35 dX10_hit_19 (by decide) rfl (fun z => absurd z (by decide)) (fun _ => ?_)
  refine xi_aload_n dX10_hit_22 rfl ?_
  refine xi_getR dX10_hit_23 fgX10_49 mm0 rfl ?_
  refine xi_iconst (v := 4) dX10_hit_26 rfl ?_
  refine xi_iload_n dX10_hit_27 rfl ?_
  refine xe_imul dX10_hit_28 (v := nI (4 * k0)) (pk_mul 4 k0) ?_
  refine xi_iload_n dX10_hit_29 rfl ?_
  refine xe_iadd dX10_hit_30 (v := nI (4 * k0 + k1)) (nI_add (4 * k0) k1) ?_
  have q1 := Hx_le (A := A) (now := now) hW hw0 (4 * k0 + k1)
  refine xe_iald (v := nI (Hx G A S0 now (4 * k0 + k1))) (4 * k0 + k1) dX10_hit_31 mm8 (by decide) rfl (by omega) (hNH (4 * k0 + k1) (by omega)) ?_
  refine xi_goto 36 dX10_hit_32 (by decide) ?_
  refine xi_iret (v := nI (Hx G A S0 now (4 * k0 + k1))) dX10_hit_36 rfl ?_
  simp only [a_hit, ec0, ec1] at h
  exact h

set_option maxHeartbeats 4000000 in
set_option maxRecDepth 100000 in
theorem mo_taken {X : xX} {M : xM} {Q : Option Value → xM → Prop} (hX : wX X) (hC : RepM X M) (x0 : Int32) (x1 : Int32) (h : Q (some (.int (a_taken X x0 x1))) M) : WP shM mX10_taken 0 [some (.ref 0), some (.int x0), some (.int x1)] [] M Q := by
  obtain ⟨G, S0, now, late, risk, A, L, sq, nl, rf, hr, lg, w, tp⟩ := X
  obtain ⟨hW, hw0, wn, wl, wr, wA_, wsq, wnl, wmo, wtk, wwt, wtp, wO0, wB0⟩ := id hX
  obtain ⟨b1, b2, b3, b4, b5, b6, b7, b8, b9, wmap, wlink, wk0, wk1, b10, b11, wword⟩ := id hW
  have nb : nl ≤ 2000 := by rw [wnl]; exact mcnt_le 2000
  obtain ⟨hG, hNS, hNA, hNL, hNH, hNE, hNQ, hNW, hNT, hNM⟩ := id hC
  obtain ⟨hno, hla, hri, hnl, hrf, hhr⟩ := id hNM
  obtain ⟨s, es⟩ : ∃ s, s = 112 * now := ⟨_, rfl⟩
  have hs : s ≤ 56000 := by omega
  have hS : RM G (Zf G A S0 now) M s := by rw [es]; exact hNS.1 now (Nat.le_refl _)
  have hw : wS G (Zf G A S0 now) := wS_Zf hW hw0 now
  rcases xix_cases x0 (n := min lg.2.2.2.1 64) (by omega) with ⟨ec0, hc0⟩ | ⟨k0, hk0, rfl, ec0⟩
  · skip
    refine xi_iload_n dX10_taken_0 rfl ?_
    refine xi_if_lt 40 dX10_taken_1 (by decide) (fun h1 => ?_) (fun h1 => ?_)
    · skip
      refine xi_iconst (v := (-1)) dX10_taken_40 rfl ?_
      refine xi_iret (v := (-1)) dX10_taken_41 rfl ?_
      have e : a_taken (G, S0, now, late, risk, A, L, sq, nl, rf, hr, lg, w, tp) x0 x1 = -1 := by simp only [a_taken, ec0]
      rw [e] at h
      exact h
    · skip
      refine xi_iload_n dX10_taken_4 rfl ?_
      refine xi_aload_n dX10_taken_5 rfl ?_
      refine xe_getI (v := nI lg.2.2.2.1) dX10_taken_6 fgX10_130 mm0 rfl hNE.2.2.2.1 ?_
      refine xi_icmp_ge 40 dX10_taken_9 (by decide) (fun h9 => ?_) (fun h9 => ?_)
      · skip
        refine xi_iconst (v := (-1)) dX10_taken_40 rfl ?_
        refine xi_iret (v := (-1)) dX10_taken_41 rfl ?_
        have e : a_taken (G, S0, now, late, risk, A, L, sq, nl, rf, hr, lg, w, tp) x0 x1 = -1 := by simp only [a_taken, ec0]
        rw [e] at h
        exact h
      · skip
        refine xi_iload_n dX10_taken_12 rfl ?_
        refine xi_bipush (v := 64) dX10_taken_13 (by decide) ?_
        refine xi_icmp_ge 40 dX10_taken_15 (by decide) (fun h15 => ?_) (fun h15 => ?_)
        · skip
          refine xi_iconst (v := (-1)) dX10_taken_40 rfl ?_
          refine xi_iret (v := (-1)) dX10_taken_41 rfl ?_
          have e : a_taken (G, S0, now, late, risk, A, L, sq, nl, rf, hr, lg, w, tp) x0 x1 = -1 := by simp only [a_taken, ec0]
          rw [e] at h
          exact h
        · skip
          exact hc0.elim (fun q => absurd q h1) (fun q => by by_cases e : lg.2.2.2.1 ≤ 64; rw [Nat.min_eq_left e] at q; exact absurd q h9; rw [Nat.min_eq_right (by omega)] at q; exact absurd q h15)
  rcases xix_cases x1 (n := 4) (by omega) with ⟨ec1, hc1⟩ | ⟨k1, hk1, rfl, ec1⟩
  · skip
    refine xi_iload_n dX10_taken_0 rfl ?_
    refine xn_if_lt k0 40 dX10_taken_1 (by decide) rfl (by omega) ?_
    refine xi_iload_n dX10_taken_4 rfl ?_
    refine xi_aload_n dX10_taken_5 rfl ?_
    refine xe_getI (v := nI lg.2.2.2.1) dX10_taken_6 fgX10_130 mm0 rfl hNE.2.2.2.1 ?_
    refine xn_icmp_ge k0 lg.2.2.2.1 40 dX10_taken_9 (by decide) rfl rfl (by omega) (by omega) (fun z => absurd z (by omega)) (fun h9 => ?_)
    refine xi_iload_n dX10_taken_12 rfl ?_
    refine xi_bipush (v := 64) dX10_taken_13 (by decide) ?_
    refine xn_icmp_ge k0 64 40 dX10_taken_15 (by decide) rfl rfl (by omega) (by omega) (fun z => absurd z (by omega)) (fun h15 => ?_)
    refine xi_iload_n dX10_taken_18 rfl ?_
    refine xi_iconst (v := 0) dX10_taken_19 rfl ?_
    refine xat 20 rfl ?_
    refine xi_iconst (v := 3) dX10_taken_20 rfl ?_
    refine xi_callS [.int x1, .int 0, .int 3] [] dX10_taken_21 zX10_in mlX10_137 rfl rfl rfl (Nat.le_of_ble_eq_true rfl) (Nat.le_of_ble_eq_true rfl) ⟨by decide, by decide⟩ ?_
    refine n_inF (l := 0) (r := 3) (at_rg (by omega) hc1 (by omega)) ?_
    show WP _ _ 24 _ [.int (xb false)] _ _
    refine xb_if_eq false 40 dX10_taken_24 (by decide) rfl (fun _ => ?_) (fun z => absurd z (by decide))
    refine xi_iconst (v := (-1)) dX10_taken_40 rfl ?_
    refine xi_iret (v := (-1)) dX10_taken_41 rfl ?_
    have e : a_taken (G, S0, now, late, risk, A, L, sq, nl, rf, hr, lg, w, tp) (nI k0) x1 = -1 := by simp only [a_taken, ec0, ec1]
    rw [e] at h
    exact h
  refine xi_iload_n dX10_taken_0 rfl ?_
  refine xn_if_lt k0 40 dX10_taken_1 (by decide) rfl (by omega) ?_
  refine xi_iload_n dX10_taken_4 rfl ?_
  refine xi_aload_n dX10_taken_5 rfl ?_
  refine xe_getI (v := nI lg.2.2.2.1) dX10_taken_6 fgX10_130 mm0 rfl hNE.2.2.2.1 ?_
  refine xn_icmp_ge k0 lg.2.2.2.1 40 dX10_taken_9 (by decide) rfl rfl (by omega) (by omega) (fun z => absurd z (by omega)) (fun h9 => ?_)
  refine xi_iload_n dX10_taken_12 rfl ?_
  refine xi_bipush (v := 64) dX10_taken_13 (by decide) ?_
  refine xn_icmp_ge k0 64 40 dX10_taken_15 (by decide) rfl rfl (by omega) (by omega) (fun z => absurd z (by omega)) (fun h15 => ?_)
  refine xi_iload_n dX10_taken_18 rfl ?_
  refine xi_iconst (v := 0) dX10_taken_19 rfl ?_
  refine xat 20 rfl ?_
  refine xi_iconst (v := 3) dX10_taken_20 rfl ?_
  refine xi_callS [.int (nI k1), .int 0, .int 3] [] dX10_taken_21 zX10_in mlX10_137 rfl rfl rfl (Nat.le_of_ble_eq_true rfl) (Nat.le_of_ble_eq_true rfl) ⟨by decide, by decide⟩ ?_
  refine n_inT (k := k1) (l := 0) (r := 3) (by omega) (by omega) (by omega) ?_
  show WP _ _ 24 _ [.int (xb true)] _ _
  refine xb_if_eq true 40 dX10_taken_24 (by decide) rfl (fun z => absurd z (by decide)) (fun _ => ?_)
  refine xi_aload_n dX10_taken_27 rfl ?_
  refine xi_getR dX10_taken_28 fgX10_55 mm0 rfl ?_
  refine xi_iconst (v := 4) dX10_taken_31 rfl ?_
  refine xi_iload_n dX10_taken_32 rfl ?_
  refine xe_imul dX10_taken_33 (v := nI (4 * k0)) (pk_mul 4 k0) ?_
  refine xi_iload_n dX10_taken_34 rfl ?_
  refine xe_iadd dX10_taken_35 (v := nI (4 * k0 + k1)) (nI_add (4 * k0) k1) ?_
  refine xe_iald (v := (lg.2.2.2.2 (4 * k0 + k1))) (4 * k0 + k1) dX10_taken_36 mm10 (by decide) rfl (by omega) (hNE.2.2.2.2 _ (by omega)) ?_
  refine xi_goto 41 dX10_taken_37 (by decide) ?_
  refine xi_iret (v := (lg.2.2.2.2 (4 * k0 + k1))) dX10_taken_41 rfl ?_
  simp only [a_taken, ec0, ec1] at h
  exact h

set_option maxHeartbeats 4000000 in
set_option maxRecDepth 100000 in
theorem mo_back {X : xX} {M : xM} {Q : Option Value → xM → Prop} (hX : wX X) (hC : RepM X M) (x0 : Int32) (h : Q (some (.int (a_back X x0))) M) : WP shM mX10_back 0 [some (.ref 0), some (.int x0)] [] M Q := by
  obtain ⟨G, S0, now, late, risk, A, L, sq, nl, rf, hr, lg, w, tp⟩ := X
  obtain ⟨hW, hw0, wn, wl, wr, wA_, wsq, wnl, wmo, wtk, wwt, wtp, wO0, wB0⟩ := id hX
  obtain ⟨b1, b2, b3, b4, b5, b6, b7, b8, b9, wmap, wlink, wk0, wk1, b10, b11, wword⟩ := id hW
  have nb : nl ≤ 2000 := by rw [wnl]; exact mcnt_le 2000
  obtain ⟨hG, hNS, hNA, hNL, hNH, hNE, hNQ, hNW, hNT, hNM⟩ := id hC
  obtain ⟨hno, hla, hri, hnl, hrf, hhr⟩ := id hNM
  obtain ⟨s, es⟩ : ∃ s, s = 112 * now := ⟨_, rfl⟩
  have hs : s ≤ 56000 := by omega
  have hS : RM G (Zf G A S0 now) M s := by rw [es]; exact hNS.1 now (Nat.le_refl _)
  have hw : wS G (Zf G A S0 now) := wS_Zf hW hw0 now
  rcases xix_cases x0 (n := 4) (by omega) with ⟨ec0, hc0⟩ | ⟨k0, hk0, rfl, ec0⟩
  · skip
    refine xi_iload_n dX10_back_0 rfl ?_
    refine xi_if_ne 11 dX10_back_1 (by decide) (fun _ => ?_) (fun z => absurd z (at_ne (j := 0) (by omega) (by omega) hc0))
    refine xi_iload_n dX10_back_11 rfl ?_
    refine xi_iconst (v := 1) dX10_back_12 rfl ?_
    refine xi_icmp_ne 23 dX10_back_13 (by decide) (fun _ => ?_) (fun z => absurd z (at_ne (j := 1) (by omega) (by omega) hc0))
    refine xi_iload_n dX10_back_23 rfl ?_
    refine xi_iconst (v := 2) dX10_back_24 rfl ?_
    refine xi_icmp_ne 35 dX10_back_25 (by decide) (fun _ => ?_) (fun z => absurd z (at_ne (j := 2) (by omega) (by omega) hc0))
    refine xi_iload_n dX10_back_35 rfl ?_
    refine xi_iconst (v := 3) dX10_back_36 rfl ?_
    refine xi_icmp_ne 47 dX10_back_37 (by decide) (fun _ => ?_) (fun z => absurd z (at_ne (j := 3) (by omega) (by omega) hc0))
    refine xat 47 rfl ?_
    refine xi_iconst (v := (-1)) dX10_back_47 rfl ?_
    refine xi_iret (v := (-1)) dX10_back_48 rfl ?_
    have e : a_back (G, S0, now, late, risk, A, L, sq, nl, rf, hr, lg, w, tp) x0 = -1 := by simp only [a_back, ec0]
    rw [e] at h
    exact h
  rcases (show k0 = 0 ∨ k0 = 1 ∨ k0 = 2 ∨ k0 = 3 by omega) with rfl | rfl | rfl | rfl
  · skip
    refine xi_iload_n dX10_back_0 rfl ?_
    refine xn_if_ne 0 11 dX10_back_1 (by decide) rfl (by omega) (fun h1 => ?_) (fun h1 => ?_)
    · omega
    · skip
      refine xi_aload_n dX10_back_4 rfl ?_
      refine xe_getI (v := nI lg.1) dX10_back_5 fgX10_121 mm0 rfl hNE.1 ?_
      refine xi_goto 48 dX10_back_8 (by decide) ?_
      refine xi_iret (v := nI lg.1) dX10_back_48 rfl ?_
      simp only [a_back, ec0, h1] at h
      exact h
  · skip
    refine xi_iload_n dX10_back_0 rfl ?_
    refine xn_if_ne 1 11 dX10_back_1 (by decide) rfl (by omega) (fun h1 => ?_) (fun h1 => ?_)
    · skip
      refine xi_iload_n dX10_back_11 rfl ?_
      refine xi_iconst (v := 1) dX10_back_12 rfl ?_
      refine xn_icmp_ne 1 1 23 dX10_back_13 (by decide) rfl rfl (by omega) (by omega) (fun h13 => ?_) (fun h13 => ?_)
      · omega
      · skip
        refine xi_aload_n dX10_back_16 rfl ?_
        refine xe_getI (v := nI lg.2.1) dX10_back_17 fgX10_124 mm0 rfl hNE.2.1 ?_
        refine xi_goto 48 dX10_back_20 (by decide) ?_
        refine xi_iret (v := nI lg.2.1) dX10_back_48 rfl ?_
        simp only [a_back, ec0, h1, h13] at h
        exact h
    · omega
  · skip
    refine xi_iload_n dX10_back_0 rfl ?_
    refine xn_if_ne 2 11 dX10_back_1 (by decide) rfl (by omega) (fun h1 => ?_) (fun h1 => ?_)
    · skip
      refine xi_iload_n dX10_back_11 rfl ?_
      refine xi_iconst (v := 1) dX10_back_12 rfl ?_
      refine xn_icmp_ne 2 1 23 dX10_back_13 (by decide) rfl rfl (by omega) (by omega) (fun h13 => ?_) (fun h13 => ?_)
      · skip
        refine xi_iload_n dX10_back_23 rfl ?_
        refine xi_iconst (v := 2) dX10_back_24 rfl ?_
        refine xn_icmp_ne 2 2 35 dX10_back_25 (by decide) rfl rfl (by omega) (by omega) (fun h25 => ?_) (fun h25 => ?_)
        · omega
        · skip
          refine xi_aload_n dX10_back_28 rfl ?_
          refine xe_getI (v := nI lg.2.2.1) dX10_back_29 fgX10_127 mm0 rfl hNE.2.2.1 ?_
          refine xi_goto 48 dX10_back_32 (by decide) ?_
          refine xi_iret (v := nI lg.2.2.1) dX10_back_48 rfl ?_
          simp only [a_back, ec0, h1, h13, h25] at h
          exact h
      · omega
    · omega
  · skip
    refine xi_iload_n dX10_back_0 rfl ?_
    refine xn_if_ne 3 11 dX10_back_1 (by decide) rfl (by omega) (fun h1 => ?_) (fun h1 => ?_)
    · skip
      refine xi_iload_n dX10_back_11 rfl ?_
      refine xi_iconst (v := 1) dX10_back_12 rfl ?_
      refine xn_icmp_ne 3 1 23 dX10_back_13 (by decide) rfl rfl (by omega) (by omega) (fun h13 => ?_) (fun h13 => ?_)
      · skip
        refine xi_iload_n dX10_back_23 rfl ?_
        refine xi_iconst (v := 2) dX10_back_24 rfl ?_
        refine xn_icmp_ne 3 2 35 dX10_back_25 (by decide) rfl rfl (by omega) (by omega) (fun h25 => ?_) (fun h25 => ?_)
        · skip
          refine xi_iload_n dX10_back_35 rfl ?_
          refine xi_iconst (v := 3) dX10_back_36 rfl ?_
          refine xn_icmp_ne 3 3 47 dX10_back_37 (by decide) rfl rfl (by omega) (by omega) (fun h37 => ?_) (fun h37 => ?_)
          · omega
          · skip
            refine xi_aload_n dX10_back_40 rfl ?_
            refine xe_getI (v := nI lg.2.2.2.1) dX10_back_41 fgX10_130 mm0 rfl hNE.2.2.2.1 ?_
            refine xi_goto 48 dX10_back_44 (by decide) ?_
            refine xi_iret (v := nI lg.2.2.2.1) dX10_back_48 rfl ?_
            simp only [a_back, ec0, h1, h13, h25, h37] at h
            exact h
        · omega
      · omega
    · omega

set_option maxHeartbeats 4000000 in
set_option maxRecDepth 100000 in
theorem mo_watch {X : xX} {M : xM} {Q : Option Value → xM → Prop} (hX : wX X) (hC : RepM X M) (x0 : Int32) (x1 : Int32) (x2 : Int32) (h : Q (some (.int (a_watch X x0 x1 x2))) M) : WP shM mX10_watch 0 [some (.ref 0), some (.int x0), some (.int x1), some (.int x2), none] [] M Q := by
  obtain ⟨G, S0, now, late, risk, A, L, sq, nl, rf, hr, lg, w, tp⟩ := X
  obtain ⟨hW, hw0, wn, wl, wr, wA_, wsq, wnl, wmo, wtk, wwt, wtp, wO0, wB0⟩ := id hX
  obtain ⟨b1, b2, b3, b4, b5, b6, b7, b8, b9, wmap, wlink, wk0, wk1, b10, b11, wword⟩ := id hW
  have nb : nl ≤ 2000 := by rw [wnl]; exact mcnt_le 2000
  obtain ⟨hG, hNS, hNA, hNL, hNH, hNE, hNQ, hNW, hNT, hNM⟩ := id hC
  obtain ⟨hno, hla, hri, hnl, hrf, hhr⟩ := id hNM
  obtain ⟨s, es⟩ : ∃ s, s = 112 * now := ⟨_, rfl⟩
  have hs : s ≤ 56000 := by omega
  have hS : RM G (Zf G A S0 now) M s := by rw [es]; exact hNS.1 now (Nat.le_refl _)
  have hw : wS G (Zf G A S0 now) := wS_Zf hW hw0 now
  rcases xix_cases x0 (n := gP G) (by omega) with ⟨ec0, hc0⟩ | ⟨k0, hk0, rfl, ec0⟩
  · skip
    refine xi_aload_n dX10_watch_0 rfl ?_
    refine xi_iload_n dX10_watch_1 rfl ?_
    refine xi_callV [.int x0] [] dX10_watch_2 zX10_isPlayer mlX10_272 mm0 rfl rfl rfl rfl rfl (Nat.le_of_ble_eq_true rfl) (Nat.le_of_ble_eq_true rfl) ⟨by decide, by decide⟩ ?_
    refine n_isPF hW hG hc0 ?_
    show WP _ _ 5 _ [.int (xb false)] _ _
    refine xb_if_eq false 26 dX10_watch_5 (by decide) rfl (fun _ => ?_) (fun z => absurd z (by decide))
    refine xi_iconst (v := (-1)) dX10_watch_26 rfl ?_
    refine xi_iret (v := (-1)) dX10_watch_27 rfl ?_
    have e : a_watch (G, S0, now, late, risk, A, L, sq, nl, rf, hr, lg, w, tp) x0 x1 x2 = -1 := by simp only [a_watch, ec0]
    rw [e] at h
    exact h
  rcases xix_cases x1 (n := 2) (by omega) with ⟨ec1, hc1⟩ | ⟨k1, hk1, rfl, ec1⟩
  · skip
    refine xi_aload_n dX10_watch_0 rfl ?_
    refine xi_iload_n dX10_watch_1 rfl ?_
    refine xi_callV [.int (nI k0)] [] dX10_watch_2 zX10_isPlayer mlX10_272 mm0 rfl rfl rfl rfl rfl (Nat.le_of_ble_eq_true rfl) (Nat.le_of_ble_eq_true rfl) ⟨by decide, by decide⟩ ?_
    refine n_isPT hW hG (k := k0) (by omega) ?_
    show WP _ _ 5 _ [.int (xb true)] _ _
    refine xb_if_eq true 26 dX10_watch_5 (by decide) rfl (fun z => absurd z (by decide)) (fun _ => ?_)
    refine xi_iload_n dX10_watch_8 rfl ?_
    refine xi_iconst (v := 0) dX10_watch_9 rfl ?_
    refine xi_iconst (v := 1) dX10_watch_10 rfl ?_
    refine xi_callS [.int x1, .int 0, .int 1] [] dX10_watch_11 zX10_in mlX10_137 rfl rfl rfl (Nat.le_of_ble_eq_true rfl) (Nat.le_of_ble_eq_true rfl) ⟨by decide, by decide⟩ ?_
    refine n_inF (l := 0) (r := 1) (at_rg (by omega) hc1 (by omega)) ?_
    show WP _ _ 14 _ [.int (xb false)] _ _
    refine xb_if_eq false 26 dX10_watch_14 (by decide) rfl (fun _ => ?_) (fun z => absurd z (by decide))
    refine xi_iconst (v := (-1)) dX10_watch_26 rfl ?_
    refine xi_iret (v := (-1)) dX10_watch_27 rfl ?_
    have e : a_watch (G, S0, now, late, risk, A, L, sq, nl, rf, hr, lg, w, tp) (nI k0) x1 x2 = -1 := by simp only [a_watch, ec0, ec1]
    rw [e] at h
    exact h
  rcases (show k1 = 0 ∨ k1 = 1 by omega) with rfl | rfl
  · skip
    rcases xix_cases x2 (n := 4) (by omega) with ⟨ec2, hc2⟩ | ⟨k2, hk2, rfl, ec2⟩
    · skip
      refine xi_aload_n dX10_watch_0 rfl ?_
      refine xi_iload_n dX10_watch_1 rfl ?_
      refine xi_callV [.int (nI k0)] [] dX10_watch_2 zX10_isPlayer mlX10_272 mm0 rfl rfl rfl rfl rfl (Nat.le_of_ble_eq_true rfl) (Nat.le_of_ble_eq_true rfl) ⟨by decide, by decide⟩ ?_
      refine n_isPT hW hG (k := k0) (by omega) ?_
      show WP _ _ 5 _ [.int (xb true)] _ _
      refine xb_if_eq true 26 dX10_watch_5 (by decide) rfl (fun z => absurd z (by decide)) (fun _ => ?_)
      refine xi_iload_n dX10_watch_8 rfl ?_
      refine xi_iconst (v := 0) dX10_watch_9 rfl ?_
      refine xi_iconst (v := 1) dX10_watch_10 rfl ?_
      refine xi_callS [.int (nI 0), .int 0, .int 1] [] dX10_watch_11 zX10_in mlX10_137 rfl rfl rfl (Nat.le_of_ble_eq_true rfl) (Nat.le_of_ble_eq_true rfl) ⟨by decide, by decide⟩ ?_
      refine n_inT (k := 0) (l := 0) (r := 1) (by omega) (by omega) (by omega) ?_
      show WP _ _ 14 _ [.int (xb true)] _ _
      refine xb_if_eq true 26 dX10_watch_14 (by decide) rfl (fun z => absurd z (by decide)) (fun _ => ?_)
      refine xi_iload_n dX10_watch_17 rfl ?_
      refine xi_iconst (v := 0) dX10_watch_18 rfl ?_
      refine xi_iconst (v := 3) dX10_watch_19 rfl ?_
      refine xi_callS [.int x2, .int 0, .int 3] [] dX10_watch_20 zX10_in mlX10_137 rfl rfl rfl (Nat.le_of_ble_eq_true rfl) (Nat.le_of_ble_eq_true rfl) ⟨by decide, by decide⟩ ?_
      refine n_inF (l := 0) (r := 3) (at_rg (by omega) hc2 (by omega)) ?_
      show WP _ _ 23 _ [.int (xb false)] _ _
      refine xb_if_ne false 28 dX10_watch_23 (by decide) rfl (fun z => absurd z (by decide)) (fun _ => ?_)
      refine xi_iconst (v := (-1)) dX10_watch_26 rfl ?_
      refine xi_iret (v := (-1)) dX10_watch_27 rfl ?_
      have e : a_watch (G, S0, now, late, risk, A, L, sq, nl, rf, hr, lg, w, tp) (nI k0) (nI 0) x2 = -1 := by simp only [a_watch, ec0, ec1, ec2]
      rw [e] at h
      exact h
    rcases (show k2 = 0 ∨ k2 = 1 ∨ k2 = 2 ∨ k2 = 3 by omega) with rfl | rfl | rfl | rfl
    · skip
      refine xi_aload_n dX10_watch_0 rfl ?_
      refine xi_iload_n dX10_watch_1 rfl ?_
      refine xi_callV [.int (nI k0)] [] dX10_watch_2 zX10_isPlayer mlX10_272 mm0 rfl rfl rfl rfl rfl (Nat.le_of_ble_eq_true rfl) (Nat.le_of_ble_eq_true rfl) ⟨by decide, by decide⟩ ?_
      refine n_isPT hW hG (k := k0) (by omega) ?_
      show WP _ _ 5 _ [.int (xb true)] _ _
      refine xb_if_eq true 26 dX10_watch_5 (by decide) rfl (fun z => absurd z (by decide)) (fun _ => ?_)
      refine xi_iload_n dX10_watch_8 rfl ?_
      refine xi_iconst (v := 0) dX10_watch_9 rfl ?_
      refine xi_iconst (v := 1) dX10_watch_10 rfl ?_
      refine xi_callS [.int (nI 0), .int 0, .int 1] [] dX10_watch_11 zX10_in mlX10_137 rfl rfl rfl (Nat.le_of_ble_eq_true rfl) (Nat.le_of_ble_eq_true rfl) ⟨by decide, by decide⟩ ?_
      refine n_inT (k := 0) (l := 0) (r := 1) (by omega) (by omega) (by omega) ?_
      show WP _ _ 14 _ [.int (xb true)] _ _
      refine xb_if_eq true 26 dX10_watch_14 (by decide) rfl (fun z => absurd z (by decide)) (fun _ => ?_)
      refine xi_iload_n dX10_watch_17 rfl ?_
      refine xi_iconst (v := 0) dX10_watch_18 rfl ?_
      refine xi_iconst (v := 3) dX10_watch_19 rfl ?_
      refine xi_callS [.int (nI 0), .int 0, .int 3] [] dX10_watch_20 zX10_in mlX10_137 rfl rfl rfl (Nat.le_of_ble_eq_true rfl) (Nat.le_of_ble_eq_true rfl) ⟨by decide, by decide⟩ ?_
      refine n_inT (k := 0) (l := 0) (r := 3) (by omega) (by omega) (by omega) ?_
      show WP _ _ 23 _ [.int (xb true)] _ _
      refine xb_if_ne true 28 dX10_watch_23 (by decide) rfl (fun _ => ?_) (fun z => absurd z (by decide))
      refine xi_iconst (v := 2) dX10_watch_28 rfl ?_
      refine xi_iload_n dX10_watch_29 rfl ?_
      refine xe_imul dX10_watch_30 (v := nI (2 * k0)) (pk_mul 2 k0) ?_
      refine xi_iload_n dX10_watch_31 rfl ?_
      refine xe_iadd dX10_watch_32 (v := nI (2 * k0 + 0)) (nI_add (2 * k0) 0) ?_
      refine xi_istore (lv' := [some (.ref 0), some (.int (nI k0)), some (.int (nI 0)), some (.int (nI 0)), some (.int (nI (2 * k0 + 0)))]) dX10_watch_33 (by decide) rfl ?_
      refine xi_iload_n dX10_watch_35 rfl ?_
      refine xn_if_ne 0 49 dX10_watch_36 (by decide) rfl (by omega) (fun h36 => ?_) (fun h36 => ?_)
      · omega
      · skip
        refine xi_aload_n dX10_watch_39 rfl ?_
        refine xi_getR dX10_watch_40 fgX10_61 mm0 rfl ?_
        refine xi_iload dX10_watch_43 rfl ?_
        refine xe_iald (v := nI (on (w.1 (2 * k0 + 0)))) (2 * k0 + 0) dX10_watch_45 mm12 (by decide) rfl (by omega) (hNW.1 (2 * k0 + 0) (by omega)).2.1 ?_
        refine xi_goto 86 dX10_watch_46 (by decide) ?_
        refine xi_iret (v := nI (on (w.1 (2 * k0 + 0)))) dX10_watch_86 rfl ?_
        simp only [a_watch, ec0, ec1, ec2, h36] at h
        exact h
    · skip
      refine xi_aload_n dX10_watch_0 rfl ?_
      refine xi_iload_n dX10_watch_1 rfl ?_
      refine xi_callV [.int (nI k0)] [] dX10_watch_2 zX10_isPlayer mlX10_272 mm0 rfl rfl rfl rfl rfl (Nat.le_of_ble_eq_true rfl) (Nat.le_of_ble_eq_true rfl) ⟨by decide, by decide⟩ ?_
      refine n_isPT hW hG (k := k0) (by omega) ?_
      show WP _ _ 5 _ [.int (xb true)] _ _
      refine xb_if_eq true 26 dX10_watch_5 (by decide) rfl (fun z => absurd z (by decide)) (fun _ => ?_)
      refine xi_iload_n dX10_watch_8 rfl ?_
      refine xi_iconst (v := 0) dX10_watch_9 rfl ?_
      refine xi_iconst (v := 1) dX10_watch_10 rfl ?_
      refine xi_callS [.int (nI 0), .int 0, .int 1] [] dX10_watch_11 zX10_in mlX10_137 rfl rfl rfl (Nat.le_of_ble_eq_true rfl) (Nat.le_of_ble_eq_true rfl) ⟨by decide, by decide⟩ ?_
      refine n_inT (k := 0) (l := 0) (r := 1) (by omega) (by omega) (by omega) ?_
      show WP _ _ 14 _ [.int (xb true)] _ _
      refine xb_if_eq true 26 dX10_watch_14 (by decide) rfl (fun z => absurd z (by decide)) (fun _ => ?_)
      refine xi_iload_n dX10_watch_17 rfl ?_
      refine xi_iconst (v := 0) dX10_watch_18 rfl ?_
      refine xi_iconst (v := 3) dX10_watch_19 rfl ?_
      refine xi_callS [.int (nI 1), .int 0, .int 3] [] dX10_watch_20 zX10_in mlX10_137 rfl rfl rfl (Nat.le_of_ble_eq_true rfl) (Nat.le_of_ble_eq_true rfl) ⟨by decide, by decide⟩ ?_
      refine n_inT (k := 1) (l := 0) (r := 3) (by omega) (by omega) (by omega) ?_
      show WP _ _ 23 _ [.int (xb true)] _ _
      refine xb_if_ne true 28 dX10_watch_23 (by decide) rfl (fun _ => ?_) (fun z => absurd z (by decide))
      refine xi_iconst (v := 2) dX10_watch_28 rfl ?_
      refine xi_iload_n dX10_watch_29 rfl ?_
      refine xe_imul dX10_watch_30 (v := nI (2 * k0)) (pk_mul 2 k0) ?_
      refine xi_iload_n dX10_watch_31 rfl ?_
      refine xe_iadd dX10_watch_32 (v := nI (2 * k0 + 0)) (nI_add (2 * k0) 0) ?_
      refine xi_istore (lv' := [some (.ref 0), some (.int (nI k0)), some (.int (nI 0)), some (.int (nI 1)), some (.int (nI (2 * k0 + 0)))]) dX10_watch_33 (by decide) rfl ?_
      refine xi_iload_n dX10_watch_35 rfl ?_
      refine xn_if_ne 1 49 dX10_watch_36 (by decide) rfl (by omega) (fun h36 => ?_) (fun h36 => ?_)
      · skip
        refine xi_iload_n dX10_watch_49 rfl ?_
        refine xi_iconst (v := 1) dX10_watch_50 rfl ?_
        refine xn_icmp_ne 1 1 64 dX10_watch_51 (by decide) rfl rfl (by omega) (by omega) (fun h51 => ?_) (fun h51 => ?_)
        · omega
        · skip
          refine xi_aload_n dX10_watch_54 rfl ?_
          refine xi_getR dX10_watch_55 fgX10_64 mm0 rfl ?_
          refine xi_iload dX10_watch_58 rfl ?_
          refine xe_iald (v := nI (os (w.1 (2 * k0 + 0)))) (2 * k0 + 0) dX10_watch_60 mm13 (by decide) rfl (by omega) (hNW.1 (2 * k0 + 0) (by omega)).2.2.1 ?_
          refine xi_goto 86 dX10_watch_61 (by decide) ?_
          refine xi_iret (v := nI (os (w.1 (2 * k0 + 0)))) dX10_watch_86 rfl ?_
          simp only [a_watch, ec0, ec1, ec2, h36, h51] at h
          exact h
      · omega
    · skip
      refine xi_aload_n dX10_watch_0 rfl ?_
      refine xi_iload_n dX10_watch_1 rfl ?_
      refine xi_callV [.int (nI k0)] [] dX10_watch_2 zX10_isPlayer mlX10_272 mm0 rfl rfl rfl rfl rfl (Nat.le_of_ble_eq_true rfl) (Nat.le_of_ble_eq_true rfl) ⟨by decide, by decide⟩ ?_
      refine n_isPT hW hG (k := k0) (by omega) ?_
      show WP _ _ 5 _ [.int (xb true)] _ _
      refine xb_if_eq true 26 dX10_watch_5 (by decide) rfl (fun z => absurd z (by decide)) (fun _ => ?_)
      refine xi_iload_n dX10_watch_8 rfl ?_
      refine xi_iconst (v := 0) dX10_watch_9 rfl ?_
      refine xi_iconst (v := 1) dX10_watch_10 rfl ?_
      refine xi_callS [.int (nI 0), .int 0, .int 1] [] dX10_watch_11 zX10_in mlX10_137 rfl rfl rfl (Nat.le_of_ble_eq_true rfl) (Nat.le_of_ble_eq_true rfl) ⟨by decide, by decide⟩ ?_
      refine n_inT (k := 0) (l := 0) (r := 1) (by omega) (by omega) (by omega) ?_
      show WP _ _ 14 _ [.int (xb true)] _ _
      refine xb_if_eq true 26 dX10_watch_14 (by decide) rfl (fun z => absurd z (by decide)) (fun _ => ?_)
      refine xi_iload_n dX10_watch_17 rfl ?_
      refine xi_iconst (v := 0) dX10_watch_18 rfl ?_
      refine xi_iconst (v := 3) dX10_watch_19 rfl ?_
      refine xi_callS [.int (nI 2), .int 0, .int 3] [] dX10_watch_20 zX10_in mlX10_137 rfl rfl rfl (Nat.le_of_ble_eq_true rfl) (Nat.le_of_ble_eq_true rfl) ⟨by decide, by decide⟩ ?_
      refine n_inT (k := 2) (l := 0) (r := 3) (by omega) (by omega) (by omega) ?_
      show WP _ _ 23 _ [.int (xb true)] _ _
      refine xb_if_ne true 28 dX10_watch_23 (by decide) rfl (fun _ => ?_) (fun z => absurd z (by decide))
      refine xi_iconst (v := 2) dX10_watch_28 rfl ?_
      refine xi_iload_n dX10_watch_29 rfl ?_
      refine xe_imul dX10_watch_30 (v := nI (2 * k0)) (pk_mul 2 k0) ?_
      refine xi_iload_n dX10_watch_31 rfl ?_
      refine xe_iadd dX10_watch_32 (v := nI (2 * k0 + 0)) (nI_add (2 * k0) 0) ?_
      refine xi_istore (lv' := [some (.ref 0), some (.int (nI k0)), some (.int (nI 0)), some (.int (nI 2)), some (.int (nI (2 * k0 + 0)))]) dX10_watch_33 (by decide) rfl ?_
      refine xi_iload_n dX10_watch_35 rfl ?_
      refine xn_if_ne 2 49 dX10_watch_36 (by decide) rfl (by omega) (fun h36 => ?_) (fun h36 => ?_)
      · skip
        refine xi_iload_n dX10_watch_49 rfl ?_
        refine xi_iconst (v := 1) dX10_watch_50 rfl ?_
        refine xn_icmp_ne 2 1 64 dX10_watch_51 (by decide) rfl rfl (by omega) (by omega) (fun h51 => ?_) (fun h51 => ?_)
        · skip
          refine xi_iload_n dX10_watch_64 rfl ?_
          refine xi_iconst (v := 2) dX10_watch_65 rfl ?_
          refine xn_icmp_ne 2 2 79 dX10_watch_66 (by decide) rfl rfl (by omega) (by omega) (fun h66 => ?_) (fun h66 => ?_)
          · omega
          · skip
            refine xi_aload_n dX10_watch_69 rfl ?_
            refine xi_iload dX10_watch_70 rfl ?_
            refine xi_callV [.int (nI (2 * k0 + 0))] [] dX10_watch_72 zX10_tailOf mlX10_253 mm0 rfl rfl rfl rfl rfl (Nat.le_of_ble_eq_true rfl) (Nat.le_of_ble_eq_true rfl) ⟨by decide, by decide⟩ ?_
            refine n_tail (T := oT (w.1 (2 * k0 + 0))) (k := 2 * k0 + 0) (by omega) (hNW.1 _ (by omega)).1 (s := os (w.1 (2 * k0 + 0))) (by have q1 := (wwt.1 (2 * k0 + 0)).1; have q2 := (wwt.1 (2 * k0 + 0)).2.1; omega) (hNW.1 _ (by omega)).2.2.1 ?_
            have tb := mtail_le (T := oT (w.1 (2 * k0 + 0))) (s := os (w.1 (2 * k0 + 0))) (wwt.1 _).2.2.2.1
            show WP _ _ 75 _ [.long (nJ (mtail (oT (w.1 (2 * k0 + 0))) (os (w.1 (2 * k0 + 0)))))] _ _
            refine xi_l2i dX10_watch_75 ?_
            refine xtop (y := nI (mtail (oT (w.1 (2 * k0 + 0))) (os (w.1 (2 * k0 + 0))))) (nJ_l2i (by omega)) ?_
            refine xi_goto 86 dX10_watch_76 (by decide) ?_
            refine xi_iret (v := nI (mtail (oT (w.1 (2 * k0 + 0))) (os (w.1 (2 * k0 + 0))))) dX10_watch_86 rfl ?_
            simp only [a_watch, ec0, ec1, ec2, h36, h51, h66] at h
            exact h
        · omega
      · omega
    · skip
      refine xi_aload_n dX10_watch_0 rfl ?_
      refine xi_iload_n dX10_watch_1 rfl ?_
      refine xi_callV [.int (nI k0)] [] dX10_watch_2 zX10_isPlayer mlX10_272 mm0 rfl rfl rfl rfl rfl (Nat.le_of_ble_eq_true rfl) (Nat.le_of_ble_eq_true rfl) ⟨by decide, by decide⟩ ?_
      refine n_isPT hW hG (k := k0) (by omega) ?_
      show WP _ _ 5 _ [.int (xb true)] _ _
      refine xb_if_eq true 26 dX10_watch_5 (by decide) rfl (fun z => absurd z (by decide)) (fun _ => ?_)
      refine xi_iload_n dX10_watch_8 rfl ?_
      refine xi_iconst (v := 0) dX10_watch_9 rfl ?_
      refine xi_iconst (v := 1) dX10_watch_10 rfl ?_
      refine xi_callS [.int (nI 0), .int 0, .int 1] [] dX10_watch_11 zX10_in mlX10_137 rfl rfl rfl (Nat.le_of_ble_eq_true rfl) (Nat.le_of_ble_eq_true rfl) ⟨by decide, by decide⟩ ?_
      refine n_inT (k := 0) (l := 0) (r := 1) (by omega) (by omega) (by omega) ?_
      show WP _ _ 14 _ [.int (xb true)] _ _
      refine xb_if_eq true 26 dX10_watch_14 (by decide) rfl (fun z => absurd z (by decide)) (fun _ => ?_)
      refine xi_iload_n dX10_watch_17 rfl ?_
      refine xi_iconst (v := 0) dX10_watch_18 rfl ?_
      refine xi_iconst (v := 3) dX10_watch_19 rfl ?_
      refine xi_callS [.int (nI 3), .int 0, .int 3] [] dX10_watch_20 zX10_in mlX10_137 rfl rfl rfl (Nat.le_of_ble_eq_true rfl) (Nat.le_of_ble_eq_true rfl) ⟨by decide, by decide⟩ ?_
      refine n_inT (k := 3) (l := 0) (r := 3) (by omega) (by omega) (by omega) ?_
      show WP _ _ 23 _ [.int (xb true)] _ _
      refine xb_if_ne true 28 dX10_watch_23 (by decide) rfl (fun _ => ?_) (fun z => absurd z (by decide))
      refine xi_iconst (v := 2) dX10_watch_28 rfl ?_
      refine xi_iload_n dX10_watch_29 rfl ?_
      refine xe_imul dX10_watch_30 (v := nI (2 * k0)) (pk_mul 2 k0) ?_
      refine xi_iload_n dX10_watch_31 rfl ?_
      refine xe_iadd dX10_watch_32 (v := nI (2 * k0 + 0)) (nI_add (2 * k0) 0) ?_
      refine xi_istore (lv' := [some (.ref 0), some (.int (nI k0)), some (.int (nI 0)), some (.int (nI 3)), some (.int (nI (2 * k0 + 0)))]) dX10_watch_33 (by decide) rfl ?_
      refine xi_iload_n dX10_watch_35 rfl ?_
      refine xn_if_ne 3 49 dX10_watch_36 (by decide) rfl (by omega) (fun h36 => ?_) (fun h36 => ?_)
      · skip
        refine xi_iload_n dX10_watch_49 rfl ?_
        refine xi_iconst (v := 1) dX10_watch_50 rfl ?_
        refine xn_icmp_ne 3 1 64 dX10_watch_51 (by decide) rfl rfl (by omega) (by omega) (fun h51 => ?_) (fun h51 => ?_)
        · skip
          refine xi_iload_n dX10_watch_64 rfl ?_
          refine xi_iconst (v := 2) dX10_watch_65 rfl ?_
          refine xn_icmp_ne 3 2 79 dX10_watch_66 (by decide) rfl rfl (by omega) (by omega) (fun h66 => ?_) (fun h66 => ?_)
          · skip
            refine xi_aload_n dX10_watch_79 rfl ?_
            refine xi_getR dX10_watch_80 fgX10_67 mm0 rfl ?_
            refine xi_iload dX10_watch_83 rfl ?_
            refine xe_iald (v := nI (om (w.1 (2 * k0 + 0)))) (2 * k0 + 0) dX10_watch_85 mm14 (by decide) rfl (by omega) (hNW.1 (2 * k0 + 0) (by omega)).2.2.2 ?_
            refine xi_iret (v := nI (om (w.1 (2 * k0 + 0)))) dX10_watch_86 rfl ?_
            simp only [a_watch, ec0, ec1, ec2, h36, h51, h66] at h
            exact h
          · omega
        · omega
      · omega
  · skip
    rcases xix_cases x2 (n := 4) (by omega) with ⟨ec2, hc2⟩ | ⟨k2, hk2, rfl, ec2⟩
    · skip
      refine xi_aload_n dX10_watch_0 rfl ?_
      refine xi_iload_n dX10_watch_1 rfl ?_
      refine xi_callV [.int (nI k0)] [] dX10_watch_2 zX10_isPlayer mlX10_272 mm0 rfl rfl rfl rfl rfl (Nat.le_of_ble_eq_true rfl) (Nat.le_of_ble_eq_true rfl) ⟨by decide, by decide⟩ ?_
      refine n_isPT hW hG (k := k0) (by omega) ?_
      show WP _ _ 5 _ [.int (xb true)] _ _
      refine xb_if_eq true 26 dX10_watch_5 (by decide) rfl (fun z => absurd z (by decide)) (fun _ => ?_)
      refine xi_iload_n dX10_watch_8 rfl ?_
      refine xi_iconst (v := 0) dX10_watch_9 rfl ?_
      refine xi_iconst (v := 1) dX10_watch_10 rfl ?_
      refine xi_callS [.int (nI 1), .int 0, .int 1] [] dX10_watch_11 zX10_in mlX10_137 rfl rfl rfl (Nat.le_of_ble_eq_true rfl) (Nat.le_of_ble_eq_true rfl) ⟨by decide, by decide⟩ ?_
      refine n_inT (k := 1) (l := 0) (r := 1) (by omega) (by omega) (by omega) ?_
      show WP _ _ 14 _ [.int (xb true)] _ _
      refine xb_if_eq true 26 dX10_watch_14 (by decide) rfl (fun z => absurd z (by decide)) (fun _ => ?_)
      refine xi_iload_n dX10_watch_17 rfl ?_
      refine xi_iconst (v := 0) dX10_watch_18 rfl ?_
      refine xi_iconst (v := 3) dX10_watch_19 rfl ?_
      refine xi_callS [.int x2, .int 0, .int 3] [] dX10_watch_20 zX10_in mlX10_137 rfl rfl rfl (Nat.le_of_ble_eq_true rfl) (Nat.le_of_ble_eq_true rfl) ⟨by decide, by decide⟩ ?_
      refine n_inF (l := 0) (r := 3) (at_rg (by omega) hc2 (by omega)) ?_
      show WP _ _ 23 _ [.int (xb false)] _ _
      refine xb_if_ne false 28 dX10_watch_23 (by decide) rfl (fun z => absurd z (by decide)) (fun _ => ?_)
      refine xi_iconst (v := (-1)) dX10_watch_26 rfl ?_
      refine xi_iret (v := (-1)) dX10_watch_27 rfl ?_
      have e : a_watch (G, S0, now, late, risk, A, L, sq, nl, rf, hr, lg, w, tp) (nI k0) (nI 1) x2 = -1 := by simp only [a_watch, ec0, ec1, ec2]
      rw [e] at h
      exact h
    rcases (show k2 = 0 ∨ k2 = 1 ∨ k2 = 2 ∨ k2 = 3 by omega) with rfl | rfl | rfl | rfl
    · skip
      refine xi_aload_n dX10_watch_0 rfl ?_
      refine xi_iload_n dX10_watch_1 rfl ?_
      refine xi_callV [.int (nI k0)] [] dX10_watch_2 zX10_isPlayer mlX10_272 mm0 rfl rfl rfl rfl rfl (Nat.le_of_ble_eq_true rfl) (Nat.le_of_ble_eq_true rfl) ⟨by decide, by decide⟩ ?_
      refine n_isPT hW hG (k := k0) (by omega) ?_
      show WP _ _ 5 _ [.int (xb true)] _ _
      refine xb_if_eq true 26 dX10_watch_5 (by decide) rfl (fun z => absurd z (by decide)) (fun _ => ?_)
      refine xi_iload_n dX10_watch_8 rfl ?_
      refine xi_iconst (v := 0) dX10_watch_9 rfl ?_
      refine xi_iconst (v := 1) dX10_watch_10 rfl ?_
      refine xi_callS [.int (nI 1), .int 0, .int 1] [] dX10_watch_11 zX10_in mlX10_137 rfl rfl rfl (Nat.le_of_ble_eq_true rfl) (Nat.le_of_ble_eq_true rfl) ⟨by decide, by decide⟩ ?_
      refine n_inT (k := 1) (l := 0) (r := 1) (by omega) (by omega) (by omega) ?_
      show WP _ _ 14 _ [.int (xb true)] _ _
      refine xb_if_eq true 26 dX10_watch_14 (by decide) rfl (fun z => absurd z (by decide)) (fun _ => ?_)
      refine xi_iload_n dX10_watch_17 rfl ?_
      refine xi_iconst (v := 0) dX10_watch_18 rfl ?_
      refine xi_iconst (v := 3) dX10_watch_19 rfl ?_
      refine xi_callS [.int (nI 0), .int 0, .int 3] [] dX10_watch_20 zX10_in mlX10_137 rfl rfl rfl (Nat.le_of_ble_eq_true rfl) (Nat.le_of_ble_eq_true rfl) ⟨by decide, by decide⟩ ?_
      refine n_inT (k := 0) (l := 0) (r := 3) (by omega) (by omega) (by omega) ?_
      show WP _ _ 23 _ [.int (xb true)] _ _
      refine xb_if_ne true 28 dX10_watch_23 (by decide) rfl (fun _ => ?_) (fun z => absurd z (by decide))
      refine xi_iconst (v := 2) dX10_watch_28 rfl ?_
      refine xi_iload_n dX10_watch_29 rfl ?_
      refine xe_imul dX10_watch_30 (v := nI (2 * k0)) (pk_mul 2 k0) ?_
      refine xi_iload_n dX10_watch_31 rfl ?_
      refine xe_iadd dX10_watch_32 (v := nI (2 * k0 + 1)) (nI_add (2 * k0) 1) ?_
      refine xi_istore (lv' := [some (.ref 0), some (.int (nI k0)), some (.int (nI 1)), some (.int (nI 0)), some (.int (nI (2 * k0 + 1)))]) dX10_watch_33 (by decide) rfl ?_
      refine xi_iload_n dX10_watch_35 rfl ?_
      refine xn_if_ne 0 49 dX10_watch_36 (by decide) rfl (by omega) (fun h36 => ?_) (fun h36 => ?_)
      · omega
      · skip
        refine xi_aload_n dX10_watch_39 rfl ?_
        refine xi_getR dX10_watch_40 fgX10_61 mm0 rfl ?_
        refine xi_iload dX10_watch_43 rfl ?_
        refine xe_iald (v := nI (on (w.1 (2 * k0 + 1)))) (2 * k0 + 1) dX10_watch_45 mm12 (by decide) rfl (by omega) (hNW.1 (2 * k0 + 1) (by omega)).2.1 ?_
        refine xi_goto 86 dX10_watch_46 (by decide) ?_
        refine xi_iret (v := nI (on (w.1 (2 * k0 + 1)))) dX10_watch_86 rfl ?_
        simp only [a_watch, ec0, ec1, ec2, h36] at h
        exact h
    · skip
      refine xi_aload_n dX10_watch_0 rfl ?_
      refine xi_iload_n dX10_watch_1 rfl ?_
      refine xi_callV [.int (nI k0)] [] dX10_watch_2 zX10_isPlayer mlX10_272 mm0 rfl rfl rfl rfl rfl (Nat.le_of_ble_eq_true rfl) (Nat.le_of_ble_eq_true rfl) ⟨by decide, by decide⟩ ?_
      refine n_isPT hW hG (k := k0) (by omega) ?_
      show WP _ _ 5 _ [.int (xb true)] _ _
      refine xb_if_eq true 26 dX10_watch_5 (by decide) rfl (fun z => absurd z (by decide)) (fun _ => ?_)
      refine xi_iload_n dX10_watch_8 rfl ?_
      refine xi_iconst (v := 0) dX10_watch_9 rfl ?_
      refine xi_iconst (v := 1) dX10_watch_10 rfl ?_
      refine xi_callS [.int (nI 1), .int 0, .int 1] [] dX10_watch_11 zX10_in mlX10_137 rfl rfl rfl (Nat.le_of_ble_eq_true rfl) (Nat.le_of_ble_eq_true rfl) ⟨by decide, by decide⟩ ?_
      refine n_inT (k := 1) (l := 0) (r := 1) (by omega) (by omega) (by omega) ?_
      show WP _ _ 14 _ [.int (xb true)] _ _
      refine xb_if_eq true 26 dX10_watch_14 (by decide) rfl (fun z => absurd z (by decide)) (fun _ => ?_)
      refine xi_iload_n dX10_watch_17 rfl ?_
      refine xi_iconst (v := 0) dX10_watch_18 rfl ?_
      refine xi_iconst (v := 3) dX10_watch_19 rfl ?_
      refine xi_callS [.int (nI 1), .int 0, .int 3] [] dX10_watch_20 zX10_in mlX10_137 rfl rfl rfl (Nat.le_of_ble_eq_true rfl) (Nat.le_of_ble_eq_true rfl) ⟨by decide, by decide⟩ ?_
      refine n_inT (k := 1) (l := 0) (r := 3) (by omega) (by omega) (by omega) ?_
      show WP _ _ 23 _ [.int (xb true)] _ _
      refine xb_if_ne true 28 dX10_watch_23 (by decide) rfl (fun _ => ?_) (fun z => absurd z (by decide))
      refine xi_iconst (v := 2) dX10_watch_28 rfl ?_
      refine xi_iload_n dX10_watch_29 rfl ?_
      refine xe_imul dX10_watch_30 (v := nI (2 * k0)) (pk_mul 2 k0) ?_
      refine xi_iload_n dX10_watch_31 rfl ?_
      refine xe_iadd dX10_watch_32 (v := nI (2 * k0 + 1)) (nI_add (2 * k0) 1) ?_
      refine xi_istore (lv' := [some (.ref 0), some (.int (nI k0)), some (.int (nI 1)), some (.int (nI 1)), some (.int (nI (2 * k0 + 1)))]) dX10_watch_33 (by decide) rfl ?_
      refine xi_iload_n dX10_watch_35 rfl ?_
      refine xn_if_ne 1 49 dX10_watch_36 (by decide) rfl (by omega) (fun h36 => ?_) (fun h36 => ?_)
      · skip
        refine xi_iload_n dX10_watch_49 rfl ?_
        refine xi_iconst (v := 1) dX10_watch_50 rfl ?_
        refine xn_icmp_ne 1 1 64 dX10_watch_51 (by decide) rfl rfl (by omega) (by omega) (fun h51 => ?_) (fun h51 => ?_)
        · omega
        · skip
          refine xi_aload_n dX10_watch_54 rfl ?_
          refine xi_getR dX10_watch_55 fgX10_64 mm0 rfl ?_
          refine xi_iload dX10_watch_58 rfl ?_
          refine xe_iald (v := nI (os (w.1 (2 * k0 + 1)))) (2 * k0 + 1) dX10_watch_60 mm13 (by decide) rfl (by omega) (hNW.1 (2 * k0 + 1) (by omega)).2.2.1 ?_
          refine xi_goto 86 dX10_watch_61 (by decide) ?_
          refine xi_iret (v := nI (os (w.1 (2 * k0 + 1)))) dX10_watch_86 rfl ?_
          simp only [a_watch, ec0, ec1, ec2, h36, h51] at h
          exact h
      · omega
    · skip
      refine xi_aload_n dX10_watch_0 rfl ?_
      refine xi_iload_n dX10_watch_1 rfl ?_
      refine xi_callV [.int (nI k0)] [] dX10_watch_2 zX10_isPlayer mlX10_272 mm0 rfl rfl rfl rfl rfl (Nat.le_of_ble_eq_true rfl) (Nat.le_of_ble_eq_true rfl) ⟨by decide, by decide⟩ ?_
      refine n_isPT hW hG (k := k0) (by omega) ?_
      show WP _ _ 5 _ [.int (xb true)] _ _
      refine xb_if_eq true 26 dX10_watch_5 (by decide) rfl (fun z => absurd z (by decide)) (fun _ => ?_)
      refine xi_iload_n dX10_watch_8 rfl ?_
      refine xi_iconst (v := 0) dX10_watch_9 rfl ?_
      refine xi_iconst (v := 1) dX10_watch_10 rfl ?_
      refine xi_callS [.int (nI 1), .int 0, .int 1] [] dX10_watch_11 zX10_in mlX10_137 rfl rfl rfl (Nat.le_of_ble_eq_true rfl) (Nat.le_of_ble_eq_true rfl) ⟨by decide, by decide⟩ ?_
      refine n_inT (k := 1) (l := 0) (r := 1) (by omega) (by omega) (by omega) ?_
      show WP _ _ 14 _ [.int (xb true)] _ _
      refine xb_if_eq true 26 dX10_watch_14 (by decide) rfl (fun z => absurd z (by decide)) (fun _ => ?_)
      refine xi_iload_n dX10_watch_17 rfl ?_
      refine xi_iconst (v := 0) dX10_watch_18 rfl ?_
      refine xi_iconst (v := 3) dX10_watch_19 rfl ?_
      refine xi_callS [.int (nI 2), .int 0, .int 3] [] dX10_watch_20 zX10_in mlX10_137 rfl rfl rfl (Nat.le_of_ble_eq_true rfl) (Nat.le_of_ble_eq_true rfl) ⟨by decide, by decide⟩ ?_
      refine n_inT (k := 2) (l := 0) (r := 3) (by omega) (by omega) (by omega) ?_
      show WP _ _ 23 _ [.int (xb true)] _ _
      refine xb_if_ne true 28 dX10_watch_23 (by decide) rfl (fun _ => ?_) (fun z => absurd z (by decide))
      refine xi_iconst (v := 2) dX10_watch_28 rfl ?_
      refine xi_iload_n dX10_watch_29 rfl ?_
      refine xe_imul dX10_watch_30 (v := nI (2 * k0)) (pk_mul 2 k0) ?_
      refine xi_iload_n dX10_watch_31 rfl ?_
      refine xe_iadd dX10_watch_32 (v := nI (2 * k0 + 1)) (nI_add (2 * k0) 1) ?_
      refine xi_istore (lv' := [some (.ref 0), some (.int (nI k0)), some (.int (nI 1)), some (.int (nI 2)), some (.int (nI (2 * k0 + 1)))]) dX10_watch_33 (by decide) rfl ?_
      refine xi_iload_n dX10_watch_35 rfl ?_
      refine xn_if_ne 2 49 dX10_watch_36 (by decide) rfl (by omega) (fun h36 => ?_) (fun h36 => ?_)
      · skip
        refine xi_iload_n dX10_watch_49 rfl ?_
        refine xi_iconst (v := 1) dX10_watch_50 rfl ?_
        refine xn_icmp_ne 2 1 64 dX10_watch_51 (by decide) rfl rfl (by omega) (by omega) (fun h51 => ?_) (fun h51 => ?_)
        · skip
          refine xi_iload_n dX10_watch_64 rfl ?_
          refine xi_iconst (v := 2) dX10_watch_65 rfl ?_
          refine xn_icmp_ne 2 2 79 dX10_watch_66 (by decide) rfl rfl (by omega) (by omega) (fun h66 => ?_) (fun h66 => ?_)
          · omega
          · skip
            refine xi_aload_n dX10_watch_69 rfl ?_
            refine xi_iload dX10_watch_70 rfl ?_
            refine xi_callV [.int (nI (2 * k0 + 1))] [] dX10_watch_72 zX10_tailOf mlX10_253 mm0 rfl rfl rfl rfl rfl (Nat.le_of_ble_eq_true rfl) (Nat.le_of_ble_eq_true rfl) ⟨by decide, by decide⟩ ?_
            refine n_tail (T := oT (w.1 (2 * k0 + 1))) (k := 2 * k0 + 1) (by omega) (hNW.1 _ (by omega)).1 (s := os (w.1 (2 * k0 + 1))) (by have q1 := (wwt.1 (2 * k0 + 1)).1; have q2 := (wwt.1 (2 * k0 + 1)).2.1; omega) (hNW.1 _ (by omega)).2.2.1 ?_
            have tb := mtail_le (T := oT (w.1 (2 * k0 + 1))) (s := os (w.1 (2 * k0 + 1))) (wwt.1 _).2.2.2.1
            show WP _ _ 75 _ [.long (nJ (mtail (oT (w.1 (2 * k0 + 1))) (os (w.1 (2 * k0 + 1)))))] _ _
            refine xi_l2i dX10_watch_75 ?_
            refine xtop (y := nI (mtail (oT (w.1 (2 * k0 + 1))) (os (w.1 (2 * k0 + 1))))) (nJ_l2i (by omega)) ?_
            refine xi_goto 86 dX10_watch_76 (by decide) ?_
            refine xi_iret (v := nI (mtail (oT (w.1 (2 * k0 + 1))) (os (w.1 (2 * k0 + 1))))) dX10_watch_86 rfl ?_
            simp only [a_watch, ec0, ec1, ec2, h36, h51, h66] at h
            exact h
        · omega
      · omega
    · skip
      refine xi_aload_n dX10_watch_0 rfl ?_
      refine xi_iload_n dX10_watch_1 rfl ?_
      refine xi_callV [.int (nI k0)] [] dX10_watch_2 zX10_isPlayer mlX10_272 mm0 rfl rfl rfl rfl rfl (Nat.le_of_ble_eq_true rfl) (Nat.le_of_ble_eq_true rfl) ⟨by decide, by decide⟩ ?_
      refine n_isPT hW hG (k := k0) (by omega) ?_
      show WP _ _ 5 _ [.int (xb true)] _ _
      refine xb_if_eq true 26 dX10_watch_5 (by decide) rfl (fun z => absurd z (by decide)) (fun _ => ?_)
      refine xi_iload_n dX10_watch_8 rfl ?_
      refine xi_iconst (v := 0) dX10_watch_9 rfl ?_
      refine xi_iconst (v := 1) dX10_watch_10 rfl ?_
      refine xi_callS [.int (nI 1), .int 0, .int 1] [] dX10_watch_11 zX10_in mlX10_137 rfl rfl rfl (Nat.le_of_ble_eq_true rfl) (Nat.le_of_ble_eq_true rfl) ⟨by decide, by decide⟩ ?_
      refine n_inT (k := 1) (l := 0) (r := 1) (by omega) (by omega) (by omega) ?_
      show WP _ _ 14 _ [.int (xb true)] _ _
      refine xb_if_eq true 26 dX10_watch_14 (by decide) rfl (fun z => absurd z (by decide)) (fun _ => ?_)
      refine xi_iload_n dX10_watch_17 rfl ?_
      refine xi_iconst (v := 0) dX10_watch_18 rfl ?_
      refine xi_iconst (v := 3) dX10_watch_19 rfl ?_
      refine xi_callS [.int (nI 3), .int 0, .int 3] [] dX10_watch_20 zX10_in mlX10_137 rfl rfl rfl (Nat.le_of_ble_eq_true rfl) (Nat.le_of_ble_eq_true rfl) ⟨by decide, by decide⟩ ?_
      refine n_inT (k := 3) (l := 0) (r := 3) (by omega) (by omega) (by omega) ?_
      show WP _ _ 23 _ [.int (xb true)] _ _
      refine xb_if_ne true 28 dX10_watch_23 (by decide) rfl (fun _ => ?_) (fun z => absurd z (by decide))
      refine xi_iconst (v := 2) dX10_watch_28 rfl ?_
      refine xi_iload_n dX10_watch_29 rfl ?_
      refine xe_imul dX10_watch_30 (v := nI (2 * k0)) (pk_mul 2 k0) ?_
      refine xi_iload_n dX10_watch_31 rfl ?_
      refine xe_iadd dX10_watch_32 (v := nI (2 * k0 + 1)) (nI_add (2 * k0) 1) ?_
      refine xi_istore (lv' := [some (.ref 0), some (.int (nI k0)), some (.int (nI 1)), some (.int (nI 3)), some (.int (nI (2 * k0 + 1)))]) dX10_watch_33 (by decide) rfl ?_
      refine xi_iload_n dX10_watch_35 rfl ?_
      refine xn_if_ne 3 49 dX10_watch_36 (by decide) rfl (by omega) (fun h36 => ?_) (fun h36 => ?_)
      · skip
        refine xi_iload_n dX10_watch_49 rfl ?_
        refine xi_iconst (v := 1) dX10_watch_50 rfl ?_
        refine xn_icmp_ne 3 1 64 dX10_watch_51 (by decide) rfl rfl (by omega) (by omega) (fun h51 => ?_) (fun h51 => ?_)
        · skip
          refine xi_iload_n dX10_watch_64 rfl ?_
          refine xi_iconst (v := 2) dX10_watch_65 rfl ?_
          refine xn_icmp_ne 3 2 79 dX10_watch_66 (by decide) rfl rfl (by omega) (by omega) (fun h66 => ?_) (fun h66 => ?_)
          · skip
            refine xi_aload_n dX10_watch_79 rfl ?_
            refine xi_getR dX10_watch_80 fgX10_67 mm0 rfl ?_
            refine xi_iload dX10_watch_83 rfl ?_
            refine xe_iald (v := nI (om (w.1 (2 * k0 + 1)))) (2 * k0 + 1) dX10_watch_85 mm14 (by decide) rfl (by omega) (hNW.1 (2 * k0 + 1) (by omega)).2.2.2 ?_
            refine xi_iret (v := nI (om (w.1 (2 * k0 + 1)))) dX10_watch_86 rfl ?_
            simp only [a_watch, ec0, ec1, ec2, h36, h51, h66] at h
            exact h
          · omega
        · omega
      · omega

set_option maxHeartbeats 4000000 in
set_option maxRecDepth 100000 in
theorem ol_fair0 {G : xG} {S0 : xS} {now late risk : Nat} {A : Nat → Nat} {L : Nat → Bool} {sq : Nat → Nat} {nl : Nat} {rf hr : Int32} {lg : xE2} {w : xw} {tp : Nat → xT} {M : xM} {Q : Option Value → xM → Prop} (hX : wX (G, S0, now, late, risk, A, L, sq, nl, rf, hr, lg, w, tp)) (hC : RepM (G, S0, now, late, risk, A, L, sq, nl, rf, hr, lg, w, tp) M) {p : Nat} (hp : p < gP G) : ∀ (f t : Nat), t + f = now - late → Q (some (.int (nI (mfair (Hx G A S0 now) L p false (now - late))))) M → WP shM mX10_fair 24 [some (.ref 0), some (.int (nI p)), some (.int (nI 0)), some (.int (nI (mfair (Hx G A S0 now) L p false t))), some (.int (nI t))] [] M Q := by
  obtain ⟨hW, hw0, wn, wl, wr, wA_, wsq, wnl, wmo, wtk, wwt, wtp, wO0, wB0⟩ := id hX
  obtain ⟨b1, b2, b3, b4, b5, b6, b7, b8, b9, wmap, wlink, wk0, wk1, b10, b11, wword⟩ := id hW
  have nb : nl ≤ 2000 := by rw [wnl]; exact mcnt_le 2000
  obtain ⟨hG, hNS, hNA, hNL, hNH, hNE, hNQ, hNW, hNT, hNM⟩ := id hC
  obtain ⟨hno, hla, hri, hnl, hrf, hhr⟩ := id hNM
  obtain ⟨s, es⟩ : ∃ s, s = 112 * now := ⟨_, rfl⟩
  have hs : s ≤ 56000 := by omega
  have hS : RM G (Zf G A S0 now) M s := by rw [es]; exact hNS.1 now (Nat.le_refl _)
  have hw : wS G (Zf G A S0 now) := wS_Zf hW hw0 now
  intro f
  induction f with
  | zero =>
    intro t hf h
    refine xi_iload dX10_fair_24 rfl ?_
    refine xi_aload_n dX10_fair_26 rfl ?_
    refine xe_getI (v := nI now) dX10_fair_27 fgX10_110 mm0 rfl hno ?_
    refine xi_aload_n dX10_fair_30 rfl ?_
    refine xe_getI (v := nI late) dX10_fair_31 fgX10_32 mm0 rfl hla ?_
    refine xi_isub dX10_fair_34 ?_
    refine xs_icmp_ge t now late 90 dX10_fair_35 (by decide) rfl rfl (by omega) (by omega) (by omega) (fun h35 => ?_) (fun h35 => ?_)
    · skip
      refine xi_iload_n dX10_fair_90 rfl ?_
      refine xi_iret (v := nI (mfair (Hx G A S0 now) L p false t)) dX10_fair_91 rfl ?_
      rw [show now - late = t by omega] at h
      exact h
    · omega
  | succ f ih =>
    intro t hf h
    refine xi_iload dX10_fair_24 rfl ?_
    refine xi_aload_n dX10_fair_26 rfl ?_
    refine xe_getI (v := nI now) dX10_fair_27 fgX10_110 mm0 rfl hno ?_
    refine xi_aload_n dX10_fair_30 rfl ?_
    refine xe_getI (v := nI late) dX10_fair_31 fgX10_32 mm0 rfl hla ?_
    refine xi_isub dX10_fair_34 ?_
    refine xs_icmp_ge t now late 90 dX10_fair_35 (by decide) rfl rfl (by omega) (by omega) (by omega) (fun h35 => ?_) (fun h35 => ?_)
    · omega
    · skip
      refine xi_iload_n dX10_fair_38 rfl ?_
      refine xi_aload_n dX10_fair_39 rfl ?_
      refine xi_getR dX10_fair_40 fgX10_49 mm0 rfl ?_
      refine xi_iconst (v := 4) dX10_fair_43 rfl ?_
      refine xi_iload dX10_fair_44 rfl ?_
      refine xe_imul dX10_fair_46 (v := nI (4 * t)) (pk_mul 4 t) ?_
      refine xi_iload_n dX10_fair_47 rfl ?_
      refine xe_iadd dX10_fair_48 (v := nI (4 * t + p)) (nI_add (4 * t) p) ?_
      have q1 := Hx_le (A := A) (now := now) hW hw0 (4 * t + p)
      refine xe_iald (v := nI (Hx G A S0 now (4 * t + p))) (4 * t + p) dX10_fair_49 mm8 (by decide) rfl (by omega) (hNH (4 * t + p) (by omega)) ?_
      refine xn_if_le (Hx G A S0 now (4 * t + p)) 81 dX10_fair_50 (by decide) rfl (by omega) (fun h50 => ?_) (fun h50 => ?_)
      · skip
        refine xi_iconst (v := 0) dX10_fair_81 rfl ?_
        refine xe_iadd dX10_fair_82 (v := nI (mfair (Hx G A S0 now) L p false t + 0)) (nI_add _ _) ?_
        refine xi_istore_n (lv' := [some (.ref 0), some (.int (nI p)), some (.int (nI 0)), some (.int (nI (mfair (Hx G A S0 now) L p false t + 0))), some (.int (nI t))]) dX10_fair_83 (by decide) rfl ?_
        refine xi_iinc (v := nI (t + 1)) (lv' := [some (.ref 0), some (.int (nI p)), some (.int (nI 0)), some (.int (nI (mfair (Hx G A S0 now) L p false t + 0))), some (.int (nI (t + 1)))]) dX10_fair_84 rfl (xinc t) (by decide) rfl ?_
        refine xi_goto 24 dX10_fair_87 (by decide) ?_
        rw [show mfair (Hx G A S0 now) L p false t + 0 = mfair (Hx G A S0 now) L p false (t + 1) from by rw [mfair, if_neg (fun q => by have := q.1; omega)]]
        exact ih (t + 1) (by omega) h
      · skip
        refine xi_aload_n dX10_fair_53 rfl ?_
        refine xi_getR dX10_fair_54 fgX10_45 mm0 rfl ?_
        refine xi_iconst (v := 4) dX10_fair_57 rfl ?_
        refine xi_iload dX10_fair_58 rfl ?_
        refine xe_imul dX10_fair_60 (v := nI (4 * t)) (pk_mul 4 t) ?_
        refine xi_iload_n dX10_fair_61 rfl ?_
        refine xe_iadd dX10_fair_62 (v := nI (4 * t + p)) (nI_add (4 * t) p) ?_
        refine xe_zald (v := xb (L (4 * t + p))) (4 * t + p) dX10_fair_63 mm7 (by decide) rfl (by omega) (hNL (4 * t + p) (by omega)) ?_
        refine xi_iload_n dX10_fair_64 rfl ?_
        refine xi_iconst (v := 1) dX10_fair_65 rfl ?_
        refine xn_icmp_ne 0 1 73 dX10_fair_66 (by decide) rfl rfl (by omega) (by omega) (fun h66 => ?_) (fun h66 => ?_)
        · skip
          refine xi_iconst (v := 0) dX10_fair_73 rfl ?_
          refine xL_icmp_ne (a := L (4 * t + p)) (c := false) 81 dX10_fair_74 (by decide) rfl rfl (fun h74 => ?_) (fun h74 => ?_)
          · skip
            refine xi_iconst (v := 0) dX10_fair_81 rfl ?_
            refine xe_iadd dX10_fair_82 (v := nI (mfair (Hx G A S0 now) L p false t + 0)) (nI_add _ _) ?_
            refine xi_istore_n (lv' := [some (.ref 0), some (.int (nI p)), some (.int (nI 0)), some (.int (nI (mfair (Hx G A S0 now) L p false t + 0))), some (.int (nI t))]) dX10_fair_83 (by decide) rfl ?_
            refine xi_iinc (v := nI (t + 1)) (lv' := [some (.ref 0), some (.int (nI p)), some (.int (nI 0)), some (.int (nI (mfair (Hx G A S0 now) L p false t + 0))), some (.int (nI (t + 1)))]) dX10_fair_84 rfl (xinc t) (by decide) rfl ?_
            refine xi_goto 24 dX10_fair_87 (by decide) ?_
            rw [show mfair (Hx G A S0 now) L p false t + 0 = mfair (Hx G A S0 now) L p false (t + 1) from by rw [mfair, if_neg (fun q => h74 q.2)]]
            exact ih (t + 1) (by omega) h
          · skip
            refine xi_iconst (v := 1) dX10_fair_77 rfl ?_
            refine xi_goto 82 dX10_fair_78 (by decide) ?_
            refine xe_iadd dX10_fair_82 (v := nI (mfair (Hx G A S0 now) L p false t + 1)) (nI_add _ _) ?_
            refine xi_istore_n (lv' := [some (.ref 0), some (.int (nI p)), some (.int (nI 0)), some (.int (nI (mfair (Hx G A S0 now) L p false t + 1))), some (.int (nI t))]) dX10_fair_83 (by decide) rfl ?_
            refine xi_iinc (v := nI (t + 1)) (lv' := [some (.ref 0), some (.int (nI p)), some (.int (nI 0)), some (.int (nI (mfair (Hx G A S0 now) L p false t + 1))), some (.int (nI (t + 1)))]) dX10_fair_84 rfl (xinc t) (by decide) rfl ?_
            refine xi_goto 24 dX10_fair_87 (by decide) ?_
            rw [show mfair (Hx G A S0 now) L p false t + 1 = mfair (Hx G A S0 now) L p false (t + 1) from by rw [mfair, if_pos ⟨h50, h74⟩]]
            exact ih (t + 1) (by omega) h
        · omega

set_option maxHeartbeats 4000000 in
set_option maxRecDepth 100000 in
theorem ol_fair1 {G : xG} {S0 : xS} {now late risk : Nat} {A : Nat → Nat} {L : Nat → Bool} {sq : Nat → Nat} {nl : Nat} {rf hr : Int32} {lg : xE2} {w : xw} {tp : Nat → xT} {M : xM} {Q : Option Value → xM → Prop} (hX : wX (G, S0, now, late, risk, A, L, sq, nl, rf, hr, lg, w, tp)) (hC : RepM (G, S0, now, late, risk, A, L, sq, nl, rf, hr, lg, w, tp) M) {p : Nat} (hp : p < gP G) : ∀ (f t : Nat), t + f = now - late → Q (some (.int (nI (mfair (Hx G A S0 now) L p true (now - late))))) M → WP shM mX10_fair 24 [some (.ref 0), some (.int (nI p)), some (.int (nI 1)), some (.int (nI (mfair (Hx G A S0 now) L p true t))), some (.int (nI t))] [] M Q := by
  obtain ⟨hW, hw0, wn, wl, wr, wA_, wsq, wnl, wmo, wtk, wwt, wtp, wO0, wB0⟩ := id hX
  obtain ⟨b1, b2, b3, b4, b5, b6, b7, b8, b9, wmap, wlink, wk0, wk1, b10, b11, wword⟩ := id hW
  have nb : nl ≤ 2000 := by rw [wnl]; exact mcnt_le 2000
  obtain ⟨hG, hNS, hNA, hNL, hNH, hNE, hNQ, hNW, hNT, hNM⟩ := id hC
  obtain ⟨hno, hla, hri, hnl, hrf, hhr⟩ := id hNM
  obtain ⟨s, es⟩ : ∃ s, s = 112 * now := ⟨_, rfl⟩
  have hs : s ≤ 56000 := by omega
  have hS : RM G (Zf G A S0 now) M s := by rw [es]; exact hNS.1 now (Nat.le_refl _)
  have hw : wS G (Zf G A S0 now) := wS_Zf hW hw0 now
  intro f
  induction f with
  | zero =>
    intro t hf h
    refine xi_iload dX10_fair_24 rfl ?_
    refine xi_aload_n dX10_fair_26 rfl ?_
    refine xe_getI (v := nI now) dX10_fair_27 fgX10_110 mm0 rfl hno ?_
    refine xi_aload_n dX10_fair_30 rfl ?_
    refine xe_getI (v := nI late) dX10_fair_31 fgX10_32 mm0 rfl hla ?_
    refine xi_isub dX10_fair_34 ?_
    refine xs_icmp_ge t now late 90 dX10_fair_35 (by decide) rfl rfl (by omega) (by omega) (by omega) (fun h35 => ?_) (fun h35 => ?_)
    · skip
      refine xi_iload_n dX10_fair_90 rfl ?_
      refine xi_iret (v := nI (mfair (Hx G A S0 now) L p true t)) dX10_fair_91 rfl ?_
      rw [show now - late = t by omega] at h
      exact h
    · omega
  | succ f ih =>
    intro t hf h
    refine xi_iload dX10_fair_24 rfl ?_
    refine xi_aload_n dX10_fair_26 rfl ?_
    refine xe_getI (v := nI now) dX10_fair_27 fgX10_110 mm0 rfl hno ?_
    refine xi_aload_n dX10_fair_30 rfl ?_
    refine xe_getI (v := nI late) dX10_fair_31 fgX10_32 mm0 rfl hla ?_
    refine xi_isub dX10_fair_34 ?_
    refine xs_icmp_ge t now late 90 dX10_fair_35 (by decide) rfl rfl (by omega) (by omega) (by omega) (fun h35 => ?_) (fun h35 => ?_)
    · omega
    · skip
      refine xi_iload_n dX10_fair_38 rfl ?_
      refine xi_aload_n dX10_fair_39 rfl ?_
      refine xi_getR dX10_fair_40 fgX10_49 mm0 rfl ?_
      refine xi_iconst (v := 4) dX10_fair_43 rfl ?_
      refine xi_iload dX10_fair_44 rfl ?_
      refine xe_imul dX10_fair_46 (v := nI (4 * t)) (pk_mul 4 t) ?_
      refine xi_iload_n dX10_fair_47 rfl ?_
      refine xe_iadd dX10_fair_48 (v := nI (4 * t + p)) (nI_add (4 * t) p) ?_
      have q1 := Hx_le (A := A) (now := now) hW hw0 (4 * t + p)
      refine xe_iald (v := nI (Hx G A S0 now (4 * t + p))) (4 * t + p) dX10_fair_49 mm8 (by decide) rfl (by omega) (hNH (4 * t + p) (by omega)) ?_
      refine xn_if_le (Hx G A S0 now (4 * t + p)) 81 dX10_fair_50 (by decide) rfl (by omega) (fun h50 => ?_) (fun h50 => ?_)
      · skip
        refine xi_iconst (v := 0) dX10_fair_81 rfl ?_
        refine xe_iadd dX10_fair_82 (v := nI (mfair (Hx G A S0 now) L p true t + 0)) (nI_add _ _) ?_
        refine xi_istore_n (lv' := [some (.ref 0), some (.int (nI p)), some (.int (nI 1)), some (.int (nI (mfair (Hx G A S0 now) L p true t + 0))), some (.int (nI t))]) dX10_fair_83 (by decide) rfl ?_
        refine xi_iinc (v := nI (t + 1)) (lv' := [some (.ref 0), some (.int (nI p)), some (.int (nI 1)), some (.int (nI (mfair (Hx G A S0 now) L p true t + 0))), some (.int (nI (t + 1)))]) dX10_fair_84 rfl (xinc t) (by decide) rfl ?_
        refine xi_goto 24 dX10_fair_87 (by decide) ?_
        rw [show mfair (Hx G A S0 now) L p true t + 0 = mfair (Hx G A S0 now) L p true (t + 1) from by rw [mfair, if_neg (fun q => by have := q.1; omega)]]
        exact ih (t + 1) (by omega) h
      · skip
        refine xi_aload_n dX10_fair_53 rfl ?_
        refine xi_getR dX10_fair_54 fgX10_45 mm0 rfl ?_
        refine xi_iconst (v := 4) dX10_fair_57 rfl ?_
        refine xi_iload dX10_fair_58 rfl ?_
        refine xe_imul dX10_fair_60 (v := nI (4 * t)) (pk_mul 4 t) ?_
        refine xi_iload_n dX10_fair_61 rfl ?_
        refine xe_iadd dX10_fair_62 (v := nI (4 * t + p)) (nI_add (4 * t) p) ?_
        refine xe_zald (v := xb (L (4 * t + p))) (4 * t + p) dX10_fair_63 mm7 (by decide) rfl (by omega) (hNL (4 * t + p) (by omega)) ?_
        refine xi_iload_n dX10_fair_64 rfl ?_
        refine xi_iconst (v := 1) dX10_fair_65 rfl ?_
        refine xn_icmp_ne 1 1 73 dX10_fair_66 (by decide) rfl rfl (by omega) (by omega) (fun h66 => ?_) (fun h66 => ?_)
        · omega
        · skip
          refine xi_iconst (v := 1) dX10_fair_69 rfl ?_
          refine xi_goto 74 dX10_fair_70 (by decide) ?_
          refine xL_icmp_ne (a := L (4 * t + p)) (c := true) 81 dX10_fair_74 (by decide) rfl rfl (fun h74 => ?_) (fun h74 => ?_)
          · skip
            refine xi_iconst (v := 0) dX10_fair_81 rfl ?_
            refine xe_iadd dX10_fair_82 (v := nI (mfair (Hx G A S0 now) L p true t + 0)) (nI_add _ _) ?_
            refine xi_istore_n (lv' := [some (.ref 0), some (.int (nI p)), some (.int (nI 1)), some (.int (nI (mfair (Hx G A S0 now) L p true t + 0))), some (.int (nI t))]) dX10_fair_83 (by decide) rfl ?_
            refine xi_iinc (v := nI (t + 1)) (lv' := [some (.ref 0), some (.int (nI p)), some (.int (nI 1)), some (.int (nI (mfair (Hx G A S0 now) L p true t + 0))), some (.int (nI (t + 1)))]) dX10_fair_84 rfl (xinc t) (by decide) rfl ?_
            refine xi_goto 24 dX10_fair_87 (by decide) ?_
            rw [show mfair (Hx G A S0 now) L p true t + 0 = mfair (Hx G A S0 now) L p true (t + 1) from by rw [mfair, if_neg (fun q => h74 q.2)]]
            exact ih (t + 1) (by omega) h
          · skip
            refine xi_iconst (v := 1) dX10_fair_77 rfl ?_
            refine xi_goto 82 dX10_fair_78 (by decide) ?_
            refine xe_iadd dX10_fair_82 (v := nI (mfair (Hx G A S0 now) L p true t + 1)) (nI_add _ _) ?_
            refine xi_istore_n (lv' := [some (.ref 0), some (.int (nI p)), some (.int (nI 1)), some (.int (nI (mfair (Hx G A S0 now) L p true t + 1))), some (.int (nI t))]) dX10_fair_83 (by decide) rfl ?_
            refine xi_iinc (v := nI (t + 1)) (lv' := [some (.ref 0), some (.int (nI p)), some (.int (nI 1)), some (.int (nI (mfair (Hx G A S0 now) L p true t + 1))), some (.int (nI (t + 1)))]) dX10_fair_84 rfl (xinc t) (by decide) rfl ?_
            refine xi_goto 24 dX10_fair_87 (by decide) ?_
            rw [show mfair (Hx G A S0 now) L p true t + 1 = mfair (Hx G A S0 now) L p true (t + 1) from by rw [mfair, if_pos ⟨h50, h74⟩]]
            exact ih (t + 1) (by omega) h

set_option maxHeartbeats 4000000 in
set_option maxRecDepth 100000 in
theorem mo_fair {X : xX} {M : xM} {Q : Option Value → xM → Prop} (hX : wX X) (hC : RepM X M) (x0 : Int32) (x1 : Int32) (h : Q (some (.int (a_fair X x0 x1))) M) : WP shM mX10_fair 0 [some (.ref 0), some (.int x0), some (.int x1), none, none] [] M Q := by
  obtain ⟨G, S0, now, late, risk, A, L, sq, nl, rf, hr, lg, w, tp⟩ := X
  obtain ⟨hW, hw0, wn, wl, wr, wA_, wsq, wnl, wmo, wtk, wwt, wtp, wO0, wB0⟩ := id hX
  obtain ⟨b1, b2, b3, b4, b5, b6, b7, b8, b9, wmap, wlink, wk0, wk1, b10, b11, wword⟩ := id hW
  have nb : nl ≤ 2000 := by rw [wnl]; exact mcnt_le 2000
  obtain ⟨hG, hNS, hNA, hNL, hNH, hNE, hNQ, hNW, hNT, hNM⟩ := id hC
  obtain ⟨hno, hla, hri, hnl, hrf, hhr⟩ := id hNM
  obtain ⟨s, es⟩ : ∃ s, s = 112 * now := ⟨_, rfl⟩
  have hs : s ≤ 56000 := by omega
  have hS : RM G (Zf G A S0 now) M s := by rw [es]; exact hNS.1 now (Nat.le_refl _)
  have hw : wS G (Zf G A S0 now) := wS_Zf hW hw0 now
  rcases xix_cases x0 (n := gP G) (by omega) with ⟨ec0, hc0⟩ | ⟨k0, hk0, rfl, ec0⟩
  · skip
    refine xi_aload_n dX10_fair_0 rfl ?_
    refine xi_iload_n dX10_fair_1 rfl ?_
    refine xi_callV [.int x0] [] dX10_fair_2 zX10_isPlayer mlX10_272 mm0 rfl rfl rfl rfl rfl (Nat.le_of_ble_eq_true rfl) (Nat.le_of_ble_eq_true rfl) ⟨by decide, by decide⟩ ?_
    refine n_isPF hW hG hc0 ?_
    show WP _ _ 5 _ [.int (xb false)] _ _
    refine xb_if_eq false 17 dX10_fair_5 (by decide) rfl (fun _ => ?_) (fun z => absurd z (by decide))
    refine xi_iconst (v := (-1)) dX10_fair_17 rfl ?_
    refine xi_iret (v := (-1)) dX10_fair_18 rfl ?_
    have e : a_fair (G, S0, now, late, risk, A, L, sq, nl, rf, hr, lg, w, tp) x0 x1 = -1 := by simp only [a_fair, ec0]
    rw [e] at h
    exact h
  rcases xix_cases x1 (n := 2) (by omega) with ⟨ec1, hc1⟩ | ⟨k1, hk1, rfl, ec1⟩
  · skip
    refine xi_aload_n dX10_fair_0 rfl ?_
    refine xi_iload_n dX10_fair_1 rfl ?_
    refine xi_callV [.int (nI k0)] [] dX10_fair_2 zX10_isPlayer mlX10_272 mm0 rfl rfl rfl rfl rfl (Nat.le_of_ble_eq_true rfl) (Nat.le_of_ble_eq_true rfl) ⟨by decide, by decide⟩ ?_
    refine n_isPT hW hG (k := k0) (by omega) ?_
    show WP _ _ 5 _ [.int (xb true)] _ _
    refine xb_if_eq true 17 dX10_fair_5 (by decide) rfl (fun z => absurd z (by decide)) (fun _ => ?_)
    refine xi_iload_n dX10_fair_8 rfl ?_
    refine xi_iconst (v := 0) dX10_fair_9 rfl ?_
    refine xi_iconst (v := 1) dX10_fair_10 rfl ?_
    refine xi_callS [.int x1, .int 0, .int 1] [] dX10_fair_11 zX10_in mlX10_137 rfl rfl rfl (Nat.le_of_ble_eq_true rfl) (Nat.le_of_ble_eq_true rfl) ⟨by decide, by decide⟩ ?_
    refine n_inF (l := 0) (r := 1) (at_rg (by omega) hc1 (by omega)) ?_
    show WP _ _ 14 _ [.int (xb false)] _ _
    refine xb_if_ne false 19 dX10_fair_14 (by decide) rfl (fun z => absurd z (by decide)) (fun _ => ?_)
    refine xi_iconst (v := (-1)) dX10_fair_17 rfl ?_
    refine xi_iret (v := (-1)) dX10_fair_18 rfl ?_
    have e : a_fair (G, S0, now, late, risk, A, L, sq, nl, rf, hr, lg, w, tp) (nI k0) x1 = -1 := by simp only [a_fair, ec0, ec1]
    rw [e] at h
    exact h
  rcases (show k1 = 0 ∨ k1 = 1 by omega) with rfl | rfl
  · skip
    refine xi_aload_n dX10_fair_0 rfl ?_
    refine xi_iload_n dX10_fair_1 rfl ?_
    refine xi_callV [.int (nI k0)] [] dX10_fair_2 zX10_isPlayer mlX10_272 mm0 rfl rfl rfl rfl rfl (Nat.le_of_ble_eq_true rfl) (Nat.le_of_ble_eq_true rfl) ⟨by decide, by decide⟩ ?_
    refine n_isPT hW hG (k := k0) (by omega) ?_
    show WP _ _ 5 _ [.int (xb true)] _ _
    refine xb_if_eq true 17 dX10_fair_5 (by decide) rfl (fun z => absurd z (by decide)) (fun _ => ?_)
    refine xi_iload_n dX10_fair_8 rfl ?_
    refine xi_iconst (v := 0) dX10_fair_9 rfl ?_
    refine xi_iconst (v := 1) dX10_fair_10 rfl ?_
    refine xi_callS [.int (nI 0), .int 0, .int 1] [] dX10_fair_11 zX10_in mlX10_137 rfl rfl rfl (Nat.le_of_ble_eq_true rfl) (Nat.le_of_ble_eq_true rfl) ⟨by decide, by decide⟩ ?_
    refine n_inT (k := 0) (l := 0) (r := 1) (by omega) (by omega) (by omega) ?_
    show WP _ _ 14 _ [.int (xb true)] _ _
    refine xb_if_ne true 19 dX10_fair_14 (by decide) rfl (fun _ => ?_) (fun z => absurd z (by decide))
    refine xi_iconst (v := 0) dX10_fair_19 rfl ?_
    refine xi_istore_n (lv' := [some (.ref 0), some (.int (nI k0)), some (.int (nI 0)), some (.int 0), none]) dX10_fair_20 (by decide) rfl ?_
    refine xi_iconst (v := 0) dX10_fair_21 rfl ?_
    refine xi_istore (lv' := [some (.ref 0), some (.int (nI k0)), some (.int (nI 0)), some (.int 0), some (.int 0)]) dX10_fair_22 (by decide) rfl ?_
    simp only [a_fair, ec0, ec1] at h
    exact ol_fair0 hX hC hk0 (now - late) 0 (by omega) h
  · skip
    refine xi_aload_n dX10_fair_0 rfl ?_
    refine xi_iload_n dX10_fair_1 rfl ?_
    refine xi_callV [.int (nI k0)] [] dX10_fair_2 zX10_isPlayer mlX10_272 mm0 rfl rfl rfl rfl rfl (Nat.le_of_ble_eq_true rfl) (Nat.le_of_ble_eq_true rfl) ⟨by decide, by decide⟩ ?_
    refine n_isPT hW hG (k := k0) (by omega) ?_
    show WP _ _ 5 _ [.int (xb true)] _ _
    refine xb_if_eq true 17 dX10_fair_5 (by decide) rfl (fun z => absurd z (by decide)) (fun _ => ?_)
    refine xi_iload_n dX10_fair_8 rfl ?_
    refine xi_iconst (v := 0) dX10_fair_9 rfl ?_
    refine xi_iconst (v := 1) dX10_fair_10 rfl ?_
    refine xi_callS [.int (nI 1), .int 0, .int 1] [] dX10_fair_11 zX10_in mlX10_137 rfl rfl rfl (Nat.le_of_ble_eq_true rfl) (Nat.le_of_ble_eq_true rfl) ⟨by decide, by decide⟩ ?_
    refine n_inT (k := 1) (l := 0) (r := 1) (by omega) (by omega) (by omega) ?_
    show WP _ _ 14 _ [.int (xb true)] _ _
    refine xb_if_ne true 19 dX10_fair_14 (by decide) rfl (fun _ => ?_) (fun z => absurd z (by decide))
    refine xi_iconst (v := 0) dX10_fair_19 rfl ?_
    refine xi_istore_n (lv' := [some (.ref 0), some (.int (nI k0)), some (.int (nI 1)), some (.int 0), none]) dX10_fair_20 (by decide) rfl ?_
    refine xi_iconst (v := 0) dX10_fair_21 rfl ?_
    refine xi_istore (lv' := [some (.ref 0), some (.int (nI k0)), some (.int (nI 1)), some (.int 0), some (.int 0)]) dX10_fair_22 (by decide) rfl ?_
    simp only [a_fair, ec0, ec1] at h
    exact ol_fair1 hX hC hk0 (now - late) 0 (by omega) h

set_option maxHeartbeats 4000000 in
set_option maxRecDepth 100000 in
theorem mo_count {X : xX} {M : xM} {Q : Option Value → xM → Prop} (hX : wX X) (hC : RepM X M) (x0 : Int32) (h : Q (some (.int (a_count X x0))) M) : WP shM mX10_count 0 [some (.ref 0), some (.int x0)] [] M Q := by
  obtain ⟨G, S0, now, late, risk, A, L, sq, nl, rf, hr, lg, w, tp⟩ := X
  obtain ⟨hW, hw0, wn, wl, wr, wA_, wsq, wnl, wmo, wtk, wwt, wtp, wO0, wB0⟩ := id hX
  obtain ⟨b1, b2, b3, b4, b5, b6, b7, b8, b9, wmap, wlink, wk0, wk1, b10, b11, wword⟩ := id hW
  have nb : nl ≤ 2000 := by rw [wnl]; exact mcnt_le 2000
  obtain ⟨hG, hNS, hNA, hNL, hNH, hNE, hNQ, hNW, hNT, hNM⟩ := id hC
  obtain ⟨hno, hla, hri, hnl, hrf, hhr⟩ := id hNM
  obtain ⟨s, es⟩ : ∃ s, s = 112 * now := ⟨_, rfl⟩
  have hs : s ≤ 56000 := by omega
  have hS : RM G (Zf G A S0 now) M s := by rw [es]; exact hNS.1 now (Nat.le_refl _)
  have hw : wS G (Zf G A S0 now) := wS_Zf hW hw0 now
  rcases xix_cases x0 (n := 11) (by omega) with ⟨ec0, hc0⟩ | ⟨k0, hk0, rfl, ec0⟩
  · skip
    refine xi_iload_n dX10_count_0 rfl ?_
    refine xi_tableOut 115 dX10_count_1 (by decide) (xt_bad (n := 11) (by decide) hc0 (by decide)) ?_
    refine xi_iconst (v := (-1)) dX10_count_115 rfl ?_
    refine xi_iret (v := (-1)) dX10_count_116 rfl ?_
    have e : a_count (G, S0, now, late, risk, A, L, sq, nl, rf, hr, lg, w, tp) x0 = -1 := by simp only [a_count, ec0]
    rw [e] at h
    exact h
  rcases (show k0 = 0 ∨ k0 = 1 ∨ k0 = 2 ∨ k0 = 3 ∨ k0 = 4 ∨ k0 = 5 ∨ k0 = 6 ∨ k0 = 7 ∨ k0 = 8 ∨ k0 = 9 ∨ k0 = 10 by omega) with rfl | rfl | rfl | rfl | rfl | rfl | rfl | rfl | rfl | rfl | rfl
  · skip
    refine xi_iload_n dX10_count_0 rfl ?_
    refine xi_tableIn 60 0 dX10_count_1 (by decide) (by decide) rfl (by decide) ?_
    refine xi_aload_n dX10_count_60 rfl ?_
    refine xe_getI (v := nI (gw G)) dX10_count_61 fgX10_7 mm0 rfl (mg_w hG) ?_
    refine xi_iret (v := nI (gw G)) dX10_count_64 rfl ?_
    simp only [a_count, ec0] at h
    exact h
  · skip
    refine xi_iload_n dX10_count_0 rfl ?_
    refine xi_tableIn 65 1 dX10_count_1 (by decide) (by decide) rfl (by decide) ?_
    refine xi_aload_n dX10_count_65 rfl ?_
    refine xe_getI (v := nI (gh G)) dX10_count_66 fgX10_13 mm0 rfl (mg_h hG) ?_
    refine xi_iret (v := nI (gh G)) dX10_count_69 rfl ?_
    simp only [a_count, ec0] at h
    exact h
  · skip
    refine xi_iload_n dX10_count_0 rfl ?_
    refine xi_tableIn 70 2 dX10_count_1 (by decide) (by decide) rfl (by decide) ?_
    refine xi_aload_n dX10_count_70 rfl ?_
    refine xe_getI (v := nI (gP G)) dX10_count_71 fgX10_16 mm0 rfl (mg_P hG) ?_
    refine xi_iret (v := nI (gP G)) dX10_count_74 rfl ?_
    simp only [a_count, ec0] at h
    exact h
  · skip
    refine xi_iload_n dX10_count_0 rfl ?_
    refine xi_tableIn 75 3 dX10_count_1 (by decide) (by decide) rfl (by decide) ?_
    refine xi_aload_n dX10_count_75 rfl ?_
    refine xe_getI (v := nI (gT G)) dX10_count_76 fgX10_107 mm0 rfl (mg_T hG) ?_
    refine xi_iret (v := nI (gT G)) dX10_count_79 rfl ?_
    simp only [a_count, ec0] at h
    exact h
  · skip
    refine xi_iload_n dX10_count_0 rfl ?_
    refine xi_tableIn 80 4 dX10_count_1 (by decide) (by decide) rfl (by decide) ?_
    refine xi_aload_n dX10_count_80 rfl ?_
    refine xe_getI (v := nI (gD G)) dX10_count_81 fgX10_104 mm0 rfl (mg_D hG) ?_
    refine xi_iret (v := nI (gD G)) dX10_count_84 rfl ?_
    simp only [a_count, ec0] at h
    exact h
  · skip
    refine xi_iload_n dX10_count_0 rfl ?_
    refine xi_tableIn 85 5 dX10_count_1 (by decide) (by decide) rfl (by decide) ?_
    refine xi_aload_n dX10_count_85 rfl ?_
    refine xe_getI (v := nI now) dX10_count_86 fgX10_110 mm0 rfl hno ?_
    refine xi_iret (v := nI now) dX10_count_89 rfl ?_
    simp only [a_count, ec0] at h
    exact h
  · skip
    refine xi_iload_n dX10_count_0 rfl ?_
    refine xi_tableIn 90 6 dX10_count_1 (by decide) (by decide) rfl (by decide) ?_
    refine xi_aload_n dX10_count_90 rfl ?_
    refine xe_getI (v := nI late) dX10_count_91 fgX10_32 mm0 rfl hla ?_
    refine xi_iret (v := nI late) dX10_count_94 rfl ?_
    simp only [a_count, ec0] at h
    exact h
  · skip
    refine xi_iload_n dX10_count_0 rfl ?_
    refine xi_tableIn 95 7 dX10_count_1 (by decide) (by decide) rfl (by decide) ?_
    refine xi_aload_n dX10_count_95 rfl ?_
    refine xe_getI (v := nI risk) dX10_count_96 fgX10_35 mm0 rfl hri ?_
    refine xi_iret (v := nI risk) dX10_count_99 rfl ?_
    simp only [a_count, ec0] at h
    exact h
  · skip
    refine xi_iload_n dX10_count_0 rfl ?_
    refine xi_tableIn 100 8 dX10_count_1 (by decide) (by decide) rfl (by decide) ?_
    refine xi_aload_n dX10_count_100 rfl ?_
    refine xe_getI (v := nI nl) dX10_count_101 fgX10_115 mm0 rfl hnl ?_
    refine xi_iret (v := nI nl) dX10_count_104 rfl ?_
    simp only [a_count, ec0] at h
    exact h
  · skip
    refine xi_iload_n dX10_count_0 rfl ?_
    refine xi_tableIn 105 9 dX10_count_1 (by decide) (by decide) rfl (by decide) ?_
    refine xi_aload_n dX10_count_105 rfl ?_
    refine xe_getI (v := rf) dX10_count_106 fgX10_118 mm0 rfl hrf ?_
    refine xi_iret (v := rf) dX10_count_109 rfl ?_
    simp only [a_count, ec0] at h
    exact h
  · skip
    refine xi_iload_n dX10_count_0 rfl ?_
    refine xi_tableIn 110 10 dX10_count_1 (by decide) (by decide) rfl (by decide) ?_
    refine xi_aload_n dX10_count_110 rfl ?_
    refine xe_getI (v := hr) dX10_count_111 fgX10_101 mm0 rfl hhr ?_
    refine xi_iret (v := hr) dX10_count_114 rfl ?_
    simp only [a_count, ec0] at h
    exact h

