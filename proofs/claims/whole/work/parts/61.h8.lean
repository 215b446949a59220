theorem Hx_tick {G : xG} {A : Nat → Nat} {S : xS} {now t : Nat} (hW : wG G) (ht : t < now) : mtH G A t (Zf G A S t) (Hx G A S now) = Hx G A S now := by
  funext i
  have h := mwH_at (A := A) (S := S) hW 1 t (Hx G A S now) (fun k hk => Hx_P hW hk) i
  rw [show mtH G A t (Zf G A S t) (Hx G A S now) i = mwH G A (Zf G A S) t 1 (Hx G A S now) i from rfl, h]
  split
  · unfold Hx; rw [if_pos (by omega)]
  · rfl
set_option maxHeartbeats 4000000 in
set_option maxRecDepth 100000 in
theorem o_work {G : xG} {S0 : xS} {now late risk : Nat} {A : Nat → Nat} {L : Nat → Bool} {sq : Nat → Nat} {nl : Nat} {rf hr : Int32} {lg : xE2} {w : xw} {tp : Nat → xT} {M : xM} {Q : Option Value → xM → Prop} (hX : wX (G, S0, now, late, risk, A, L, sq, nl, rf, hr, lg, w, tp)) (hC : RepM (G, S0, now, late, risk, A, L, sq, nl, rf, hr, lg, w, tp) M) {t : Nat} (ht : t < now) (h : ∀ M2, RepM (G, S0, now, late, risk, A, L, sq, nl, rf, hr, lg, w, tp) M2 → Q none M2) : WP shM mX10_work 0 [some (.ref 0), some (.int (nI t)), none, none, none] [] M Q := by
  obtain ⟨hW, hw0, wn, wl, wr, wA_, wsq, wnl, wmo, wtk, wwt, wtp, wO0, wB0⟩ := id hX
  obtain ⟨b1, b2, b3, b4, b5, b6, b7, b8, b9, wmap, wlink, wk0, wk1, b10, b11, wword⟩ := id hW
  have nb : nl ≤ 2000 := by rw [wnl]; exact mcnt_le 2000
  obtain ⟨hG, hNS, hNA, hNL, hNH, hNE, hNQ, hNW, hNT, hNM⟩ := id hC
  obtain ⟨hno, hla, hri, hnl, hrf, hhr⟩ := id hNM
  obtain ⟨s, es⟩ : ∃ s, s = 112 * now := ⟨_, rfl⟩
  have hs : s ≤ 56000 := by omega
  have hS : RM G (Zf G A S0 now) M s := by rw [es]; exact hNS.1 now (Nat.le_refl _)
  have hw : wS G (Zf G A S0 now) := wS_Zf hW hw0 now
  refine n_work hW hG (s := 112 * (t + 1)) (by omega) rfl (hNS.1 t (by omega)) (wS_Zf hW hw0 t) wA_ hNA hNH (fun M2 F R H2 => ?_)
  rw [Hx_tick hW ht] at H2
  refine h M2 (RepM_mk (hG.fh F) ⟨fun u hu => ?_, fun n hn => ?_⟩ (hNA.fh F) (hNL.sm (F.2.2.1 7 (by decide) (by decide))) H2 (hNE.sm (F.2.2.1 10 (by decide) (by decide)) (fun k _ _ => by rw [F.1])) (hNQ.sm (F.2.2.1 9 (by decide) (by decide))) (hNW.sm (fun a q1 q2 => F.2.2.1 a (by omega) (by omega)) (by rw [F.2.1])) (hNT.sm (fun a q1 q2 => F.2.2.1 a (by omega) (by omega)) (by rw [F.2.1])) (hNM.sm (fun k _ => by rw [F.1])))
  · by_cases e : u = t + 1
    · rw [e]; exact R
    · exact (hNS.1 u hu).mv hW (fun j hj => F.2.2.2 _ (by omega))
  · rw [F.2.2.2 _ (by omega)]; exact hNS.2 n hn

set_option maxHeartbeats 4000000 in
set_option maxRecDepth 100000 in
theorem ol_fall {G : xG} {S0 : xS} {now late risk : Nat} {A : Nat → Nat} {L : Nat → Bool} {sq : Nat → Nat} {nl : Nat} {rf hr : Int32} {lg : xE2} {w : xw} {tp : Nat → xT} {Q : Option Value → xM → Prop} (hX : wX (G, S0, now, late, risk, A, L, sq, nl, rf, hr, lg, w, tp)) : ∀ (f t : Nat) (M : xM), t + f = now → RepM (G, S0, now, late, risk, A, L, sq, nl, rf, hr, lg, w, tp) M → (∀ M2, RepM (G, S0, now, late, risk, A, L, sq, nl, rf, hr, lg, w, tp) M2 → Q (some (.int 1)) M2) → WP shM mX10_fall 14 [some (.ref 0), some (.int (mdig G (Zf G A S0 now))), some (.int (nI t))] [] M Q := by
  intro f
  induction f with
  | zero =>
    intro t M hf hC h
    obtain ⟨hW, hw0, wn, wl, wr, wA_, wsq, wnl, wmo, wtk, wwt, wtp, wO0, wB0⟩ := id hX
    obtain ⟨b1, b2, b3, b4, b5, b6, b7, b8, b9, wmap, wlink, wk0, wk1, b10, b11, wword⟩ := id hW
    have nb : nl ≤ 2000 := by rw [wnl]; exact mcnt_le 2000
    obtain ⟨hG, hNS, hNA, hNL, hNH, hNE, hNQ, hNW, hNT, hNM⟩ := id hC
    obtain ⟨hno, hla, hri, hnl, hrf, hhr⟩ := id hNM
    obtain ⟨s, es⟩ : ∃ s, s = 112 * now := ⟨_, rfl⟩
    have hs : s ≤ 56000 := by omega
    have hS : RM G (Zf G A S0 now) M s := by rw [es]; exact hNS.1 now (Nat.le_refl _)
    have hw : wS G (Zf G A S0 now) := wS_Zf hW hw0 now
    refine xi_iload_n dX10_fall_14 rfl ?_
    refine xi_aload_n dX10_fall_15 rfl ?_
    refine xe_getI (v := nI now) dX10_fall_16 fgX10_110 mm0 rfl hno ?_
    refine xn_icmp_ge t now 33 dX10_fall_19 (by decide) rfl rfl (by omega) (by omega) (fun h19 => ?_) (fun z => absurd z (by omega))
    refine xi_aload_n dX10_fall_33 rfl ?_
    refine xi_bipush (v := 112) dX10_fall_34 (by decide) ?_
    refine xi_aload_n dX10_fall_36 rfl ?_
    refine xe_getI (v := nI now) dX10_fall_37 fgX10_110 mm0 rfl hno ?_
    refine xe_imul dX10_fall_40 (v := nI s) ((pk_mul 112 now).trans (congrArg nI es.symm)) ?_
    refine xi_callV [.int (nI s)] [] dX10_fall_41 zX10_digestOf mlX10_287 mm0 rfl rfl rfl rfl rfl (Nat.le_of_ble_eq_true rfl) (Nat.le_of_ble_eq_true rfl) ⟨by decide, by decide⟩ ?_
    refine n_digest hW hG hs hS hw ?_
    show WP _ _ 44 _ [.int (mdig G (Zf G A S0 now))] _ _
    refine xi_iload_n dX10_fall_44 rfl ?_
    refine xi_icmp_ne 52 dX10_fall_45 (by decide) (fun h45 => ?_) (fun h45 => ?_)
    · exact absurd rfl h45
    · skip
      refine xi_iconst (v := 1) dX10_fall_48 rfl ?_
      refine xi_goto 53 dX10_fall_49 (by decide) ?_
      refine xi_iret (v := 1) dX10_fall_53 rfl ?_
      exact h M hC
  | succ f ih =>
    intro t M hf hC h
    obtain ⟨hW, hw0, wn, wl, wr, wA_, wsq, wnl, wmo, wtk, wwt, wtp, wO0, wB0⟩ := id hX
    obtain ⟨b1, b2, b3, b4, b5, b6, b7, b8, b9, wmap, wlink, wk0, wk1, b10, b11, wword⟩ := id hW
    have nb : nl ≤ 2000 := by rw [wnl]; exact mcnt_le 2000
    obtain ⟨hG, hNS, hNA, hNL, hNH, hNE, hNQ, hNW, hNT, hNM⟩ := id hC
    obtain ⟨hno, hla, hri, hnl, hrf, hhr⟩ := id hNM
    obtain ⟨s, es⟩ : ∃ s, s = 112 * now := ⟨_, rfl⟩
    have hs : s ≤ 56000 := by omega
    have hS : RM G (Zf G A S0 now) M s := by rw [es]; exact hNS.1 now (Nat.le_refl _)
    have hw : wS G (Zf G A S0 now) := wS_Zf hW hw0 now
    refine xi_iload_n dX10_fall_14 rfl ?_
    refine xi_aload_n dX10_fall_15 rfl ?_
    refine xe_getI (v := nI now) dX10_fall_16 fgX10_110 mm0 rfl hno ?_
    refine xn_icmp_ge t now 33 dX10_fall_19 (by decide) rfl rfl (by omega) (by omega) (fun z => absurd z (by omega)) (fun h19 => ?_)
    refine xi_aload_n dX10_fall_22 rfl ?_
    refine xi_iload_n dX10_fall_23 rfl ?_
    refine xi_callV [.int (nI t)] [] dX10_fall_24 zX10_work mlX10_240 mm0 rfl rfl rfl rfl rfl (Nat.le_of_ble_eq_true rfl) (Nat.le_of_ble_eq_true rfl) ⟨by decide, by decide⟩ ?_
    refine o_work hX hC (t := t) (by omega) (fun M2 hC2 => ?_)
    show WP _ _ 27 _ [] _ _
    refine xi_iinc (v := nI (t + 1)) (lv' := [some (.ref 0), some (.int (mdig G (Zf G A S0 now))), some (.int (nI (t + 1)))]) dX10_fall_27 rfl (xinc t) (by decide) rfl ?_
    refine xi_goto 14 dX10_fall_30 (by decide) ?_
    exact ih (t + 1) M2 (by omega) hC2 h

set_option maxHeartbeats 4000000 in
set_option maxRecDepth 100000 in
theorem mo_fall {X : xX} {M : xM} {Q : Option Value → xM → Prop} (hX : wX X) (hC : RepM X M) (h : ∀ M2, RepM X M2 → Q (some (.int 1)) M2) : WP shM mX10_fall 0 [some (.ref 0), none, none] [] M Q := by
  obtain ⟨G, S0, now, late, risk, A, L, sq, nl, rf, hr, lg, w, tp⟩ := X
  obtain ⟨hW, hw0, wn, wl, wr, wA_, wsq, wnl, wmo, wtk, wwt, wtp, wO0, wB0⟩ := id hX
  obtain ⟨b1, b2, b3, b4, b5, b6, b7, b8, b9, wmap, wlink, wk0, wk1, b10, b11, wword⟩ := id hW
  have nb : nl ≤ 2000 := by rw [wnl]; exact mcnt_le 2000
  obtain ⟨hG, hNS, hNA, hNL, hNH, hNE, hNQ, hNW, hNT, hNM⟩ := id hC
  obtain ⟨hno, hla, hri, hnl, hrf, hhr⟩ := id hNM
  obtain ⟨s, es⟩ : ∃ s, s = 112 * now := ⟨_, rfl⟩
  have hs : s ≤ 56000 := by omega
  have hS : RM G (Zf G A S0 now) M s := by rw [es]; exact hNS.1 now (Nat.le_refl _)
  have hw : wS G (Zf G A S0 now) := wS_Zf hW hw0 now
  refine xi_aload_n dX10_fall_0 rfl ?_
  refine xi_bipush (v := 112) dX10_fall_1 (by decide) ?_
  refine xi_aload_n dX10_fall_3 rfl ?_
  refine xe_getI (v := nI now) dX10_fall_4 fgX10_110 mm0 rfl hno ?_
  refine xe_imul dX10_fall_7 (v := nI s) ((pk_mul 112 now).trans (congrArg nI es.symm)) ?_
  refine xi_callV [.int (nI s)] [] dX10_fall_8 zX10_digestOf mlX10_287 mm0 rfl rfl rfl rfl rfl (Nat.le_of_ble_eq_true rfl) (Nat.le_of_ble_eq_true rfl) ⟨by decide, by decide⟩ ?_
  refine n_digest hW hG hs hS hw ?_
  show WP _ _ 11 _ [.int (mdig G (Zf G A S0 now))] _ _
  refine xi_istore_n (lv' := [some (.ref 0), some (.int (mdig G (Zf G A S0 now))), none]) dX10_fall_11 (by decide) rfl ?_
  refine xi_iconst (v := 0) dX10_fall_12 rfl ?_
  refine xi_istore_n (lv' := [some (.ref 0), some (.int (mdig G (Zf G A S0 now))), some (.int 0)]) dX10_fall_13 (by decide) rfl ?_
  exact ol_fall hX now 0 M (by omega) hC h

