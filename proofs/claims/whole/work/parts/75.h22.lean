def xtp (X : xX) : Nat → xT := X.2.2.2.2.2.2.2.2.2.2.2.2.2
def mrefX (X : xX) : xX := match X with
  | (G, S0, now, late, risk, A, L, sq, nl, rf, hr, lg, w, tp) => (G, S0, now, late, risk, A, L, sq, nl, rf, hr + 1, lg, w, tp)
theorem mrec_keep {X : xX} {p : Nat} {b : Int64} : (mrec X p b).2.1 = X.1 ∧ xtp (mrec X p b).2 = xtp X := by
  obtain ⟨G, S0, now, late, risk, A, L, sq, nl, rf, hr, lg, w, tp⟩ := X
  unfold mrec
  dsimp only
  split
  · unfold mtake
    dsimp only
    split <;> exact ⟨rfl, rfl⟩
  · exact ⟨rfl, rfl⟩
def mplay (R : Nat → Int64) (m i p : Nat) : Nat → Nat → xX → Int32 × xX
  | 0, k, X => (nI k, X)
  | f + 1, k, X => if i + k < m then (if (mrec X p (R (i + k))).1 < 0 then (nI k, (mrec X p (R (i + k))).2) else mplay R m i p f (k + 1) (mrec X p (R (i + k))).2) else (-13, mrefX X)
def st_play (X : xX) (x y z u : Int32) : Int32 × xX := match X with
  | (G, S0, now, late, risk, A, L, sq, nl, rf, hr, lg, w, tp) => match xix u (gP G) with
    | none => (-1, (G, S0, now, late, risk, A, L, sq, nl, rf, hr, lg, w, tp))
    | some p => match xrg z 0 80 with
      | none => (-1, (G, S0, now, late, risk, A, L, sq, nl, rf, hr, lg, w, tp))
      | some n => match xix x 6 with
        | none => (-1, (G, S0, now, late, risk, A, L, sq, nl, rf, hr, lg, w, tp))
        | some d => if (tp d).1 = 0 then (-11, (G, S0, now, late, risk, A, L, sq, nl, rf, hr + 1, lg, w, tp)) else if ¬ (tp d).1 = 4 then (-12, (G, S0, now, late, risk, A, L, sq, nl, rf, hr + 1, lg, w, tp)) else match xix y (tp d).2.1 with
          | none => if n = 0 then (0, (G, S0, now, late, risk, A, L, sq, nl, rf, hr, lg, w, tp)) else (-13, (G, S0, now, late, risk, A, L, sq, nl, rf, hr + 1, lg, w, tp))
          | some i => mplay (tp d).2.2.2.1 (tp d).2.1 i p n 0 (G, S0, now, late, risk, A, L, sq, nl, rf, hr, lg, w, tp)
theorem wX_play {R : Nat → Int64} {m i p : Nat} : ∀ (f k : Nat) (X : xX), wX X → p < gP X.1 → wX (mplay R m i p f k X).2
  | 0, k, X, h, hp => h
  | f + 1, k, X, h, hp => by
    rw [mplay]
    have h2 : wX (mrec X p (R (i + k))).2 := by
      obtain ⟨G, S0, now, late, risk, A, L, sq, nl, rf, hr, lg, w, tp⟩ := X
      exact wX_rec h hp
    split
    · split
      · exact h2
      · exact wX_play f (k + 1) _ h2 (by rw [mrec_keep.1]; exact hp)
    · obtain ⟨G, S0, now, late, risk, A, L, sq, nl, rf, hr, lg, w, tp⟩ := X
      exact h
set_option maxHeartbeats 4000000 in
set_option maxRecDepth 100000 in
theorem pl_c {Q : Option Value → xM → Prop} {R : Nat → Int64} {m i p d n : Nat} (hd : d < 6) (hn : n ≤ 80) (hi : i < m) (hm : m ≤ 80) : ∀ (f k : Nat) (X : xX) (M : xM), k + f = n → wX X → p < gP X.1 → (xtp X d).2.1 = m → (xtp X d).2.2.2.1 = R → RepC X M → (∀ M2, RepC (mplay R m i p f k X).2 M2 → Q (some (.int (mplay R m i p f k X).1)) M2) → WP shC mX9_play 52 [some (.ref 0), some (.int (nI d)), some (.int (nI i)), some (.int (nI n)), some (.int (nI p)), some (.int (nI 0)), some (.ref (43 + 3 * d)), some (.int (nI k)), none] [] M Q := by
  intro f
  induction f with
  | zero =>
    intro k X M hf hX hp em eR hC h
    obtain ⟨G, S0, now, late, risk, A, L, sq, nl, rf, hr, lg, w, tp⟩ := X
    obtain ⟨hW, hw0, wn, wl, wr, wA_, wsq, wnl, wmo, wtk, wwt, wtp, wO0, wB0⟩ := id hX
    obtain ⟨b1, b2, b3, b4, b5, b6, b7, b8, b9, wmap, wlink, wk0, wk1, b10, b11, wword⟩ := id hW
    have nb : nl ≤ 2000 := by rw [wnl]; exact mcnt_le 2000
    obtain ⟨hG, hKF, hKR, hL, hKE, hKS, hKW, hKT, hKM⟩ := id hC
    obtain ⟨hno, hla, hri, hnl, hrf, hhr⟩ := id hKM
    have hSn : CS G (Zf G A S0 now) M (61 + 10 * (now % 16)) := hKR.1 now (by omega) (by omega)
    have hwn : wS G (Zf G A S0 now) := wS_Zf hW hw0 now
    change (tp d).2.1 = m at em
    change (tp d).2.2.2.1 = R at eR
    change p < gP G at hp
    refine xi_iload dX9_play_52 rfl ?_
    refine xi_iload_n dX9_play_54 rfl ?_
    refine xn_icmp_ge k n 107 dX9_play_55 (by decide) rfl rfl (by omega) (by omega) (fun h55 => ?_) (fun z => absurd z (by omega))
    refine xi_iload_n dX9_play_107 rfl ?_
    refine xi_iret (v := nI n) dX9_play_108 rfl ?_
    obtain rfl : k = n := by omega
    exact h M hC
  | succ f ih =>
    intro k X M hf hX hp em eR hC h
    obtain ⟨G, S0, now, late, risk, A, L, sq, nl, rf, hr, lg, w, tp⟩ := X
    obtain ⟨hW, hw0, wn, wl, wr, wA_, wsq, wnl, wmo, wtk, wwt, wtp, wO0, wB0⟩ := id hX
    obtain ⟨b1, b2, b3, b4, b5, b6, b7, b8, b9, wmap, wlink, wk0, wk1, b10, b11, wword⟩ := id hW
    have nb : nl ≤ 2000 := by rw [wnl]; exact mcnt_le 2000
    obtain ⟨hG, hKF, hKR, hL, hKE, hKS, hKW, hKT, hKM⟩ := id hC
    obtain ⟨hno, hla, hri, hnl, hrf, hhr⟩ := id hKM
    have hSn : CS G (Zf G A S0 now) M (61 + 10 * (now % 16)) := hKR.1 now (by omega) (by omega)
    have hwn : wS G (Zf G A S0 now) := wS_Zf hW hw0 now
    change (tp d).2.1 = m at em
    change (tp d).2.2.2.1 = R at eR
    change p < gP G at hp
    rw [mplay] at h
    by_cases hik : i + k < m
    · rw [if_pos hik] at h
      refine xi_iload dX9_play_52 rfl ?_
      refine xi_iload_n dX9_play_54 rfl ?_
      refine xn_icmp_ge k n 107 dX9_play_55 (by decide) rfl rfl (by omega) (by omega) (fun z => absurd z (by omega)) (fun h55 => ?_)
      refine xi_iload_n dX9_play_58 rfl ?_
      refine xi_iload dX9_play_59 rfl ?_
      refine xe_iadd dX9_play_61 (v := nI (i + k)) (nI_add i k) ?_
      refine xi_istore (lv' := [some (.ref 0), some (.int (nI d)), some (.int (nI i)), some (.int (nI n)), some (.int (nI p)), some (.int (nI 0)), some (.ref (43 + 3 * d)), some (.int (nI k)), some (.int (nI (i + k)))]) dX9_play_62 (by decide) rfl ?_
      refine xi_aload dX9_play_64 rfl ?_
      refine xi_iload dX9_play_66 rfl ?_
      refine xi_callV [.int (nI (i + k))] [] dX9_play_68 zX8_hasPlace mlX9_386 (tpo (isTp_d (d := d) (by omega))) rfl rfl rfl rfl rfl (Nat.le_of_ble_eq_true rfl) (Nat.le_of_ble_eq_true rfl) ⟨by decide, by decide⟩ ?_
      refine t_hasT (isTp_d (d := d) hd) (hKT d hd).2.1 (k := i + k) (by omega) (wtp d).2.1 ?_
      show WP _ _ 71 _ [.int (xb true)] _ _
      refine xb_if_ne true 81 dX9_play_71 (by decide) rfl (fun _ => ?_) (fun z => absurd z (by decide))
      refine xi_aload_n dX9_play_81 rfl ?_
      refine xi_iload dX9_play_82 rfl ?_
      refine xi_aload dX9_play_84 rfl ?_
      refine xi_getR dX9_play_86 fgX9_389 (tpo (isTp_d (d := d) (by omega))) rfl ?_
      refine xi_iload dX9_play_89 rfl ?_
      refine xe_lald (v := (R (i + k))) (i + k) dX9_play_91 (tpa (isTp_d (d := d) (by omega))) (by decide) rfl (by omega) (by rw [← eR]; exact (hKT d hd).2.2.2.1 _ (by omega)) ?_
      refine xi_callV [.int (nI p), .long (R (i + k))] [] dX9_play_92 zX9_receive mlX9_171 cc0 rfl rfl rfl rfl rfl (Nat.le_of_ble_eq_true rfl) (Nat.le_of_ble_eq_true rfl) ⟨by decide, by decide⟩ ?_
      refine c_rec hX hC (p := p) (b := R (i + k)) hp (fun M1 hC1 => ?_)
      show WP _ _ 95 _ [.int ((mrec (G, S0, now, late, risk, A, L, sq, nl, rf, hr, lg, w, tp) p (R (i + k))).1)] _ _
      refine xi_if_ge 101 dX9_play_95 (by decide) (fun h95 => ?_) (fun h95 => ?_)
      · skip
        refine xi_iinc (v := nI (k + 1)) (lv' := [some (.ref 0), some (.int (nI d)), some (.int (nI i)), some (.int (nI n)), some (.int (nI p)), some (.int (nI 0)), some (.ref (43 + 3 * d)), some (.int (nI (k + 1))), some (.int (nI (i + k)))]) dX9_play_101 rfl (xinc k) (by decide) rfl ?_
        refine xi_goto 52 dX9_play_104 (by decide) ?_
        refine xi_drop [true, true, true, true, true, true, true, true, false] rfl ?_
        rw [if_neg (c := (mrec (G, S0, now, late, risk, A, L, sq, nl, rf, hr, lg, w, tp) p (R (i + k))).1 < 0) (Int32.not_lt.mpr h95)] at h
        refine ih (k + 1) _ M1 (by omega) (wX_rec hX hp) (by rw [mrec_keep.1]; exact hp) (by rw [mrec_keep.2]; exact em) (by rw [mrec_keep.2]; exact eR) hC1 h
      · skip
        refine xi_iload dX9_play_98 rfl ?_
        refine xi_iret (v := nI k) dX9_play_100 rfl ?_
        rw [if_pos (c := (mrec (G, S0, now, late, risk, A, L, sq, nl, rf, hr, lg, w, tp) p (R (i + k))).1 < 0) (Int32.not_le.mp h95)] at h
        exact h M1 hC1
    · rw [if_neg hik] at h
      refine xi_iload dX9_play_52 rfl ?_
      refine xi_iload_n dX9_play_54 rfl ?_
      refine xn_icmp_ge k n 107 dX9_play_55 (by decide) rfl rfl (by omega) (by omega) (fun z => absurd z (by omega)) (fun h55 => ?_)
      refine xi_iload_n dX9_play_58 rfl ?_
      refine xi_iload dX9_play_59 rfl ?_
      refine xe_iadd dX9_play_61 (v := nI (i + k)) (nI_add i k) ?_
      refine xi_istore (lv' := [some (.ref 0), some (.int (nI d)), some (.int (nI i)), some (.int (nI n)), some (.int (nI p)), some (.int (nI 0)), some (.ref (43 + 3 * d)), some (.int (nI k)), some (.int (nI (i + k)))]) dX9_play_62 (by decide) rfl ?_
      refine xi_aload dX9_play_64 rfl ?_
      refine xi_iload dX9_play_66 rfl ?_
      refine xi_callV [.int (nI (i + k))] [] dX9_play_68 zX8_hasPlace mlX9_386 (tpo (isTp_d (d := d) (by omega))) rfl rfl rfl rfl rfl (Nat.le_of_ble_eq_true rfl) (Nat.le_of_ble_eq_true rfl) ⟨by decide, by decide⟩ ?_
      refine t_hasF (isTp_d (d := d) hd) (hKT d hd).2.1 (Or.inr (nI_le (by omega) (by omega))) (wtp d).2.1 ?_
      show WP _ _ 71 _ [.int (xb false)] _ _
      refine xb_if_ne false 81 dX9_play_71 (by decide) rfl (fun z => absurd z (by decide)) (fun _ => ?_)
      refine xi_aload_n dX9_play_74 rfl ?_
      refine xi_bipush (v := (-13)) dX9_play_75 (by decide) ?_
      refine xi_callV [.int (-13)] [] dX9_play_77 zX9_refuse mlX9_369 cc0 rfl rfl rfl rfl rfl (Nat.le_of_ble_eq_true rfl) (Nat.le_of_ble_eq_true rfl) ⟨by decide, by decide⟩ ?_
      refine c_refuse (x := (-13)) hhr ?_
      show WP _ _ 80 _ [.int (-13)] _ _
      refine xi_iret (v := (-13)) dX9_play_80 rfl ?_
      exact h _ (RepC_ref hC)

set_option maxHeartbeats 4000000 in
set_option maxRecDepth 100000 in
theorem cl_play {X : xX} {M : xM} {Q : Option Value → xM → Prop} (hX : wX X) (hC : RepC X M) (x0 : Int32) (x1 : Int32) (x2 : Int32) (x3 : Int32) (h : ∀ M2, RepC (st_play X x0 x1 x2 x3).2 M2 → Q (some (.int (st_play X x0 x1 x2 x3).1)) M2) : WP shC mX9_play 0 [some (.ref 0), some (.int x0), some (.int x1), some (.int x2), some (.int x3), none, none, none, none] [] M Q := by
  obtain ⟨G, S0, now, late, risk, A, L, sq, nl, rf, hr, lg, w, tp⟩ := X
  obtain ⟨hW, hw0, wn, wl, wr, wA_, wsq, wnl, wmo, wtk, wwt, wtp, wO0, wB0⟩ := id hX
  obtain ⟨b1, b2, b3, b4, b5, b6, b7, b8, b9, wmap, wlink, wk0, wk1, b10, b11, wword⟩ := id hW
  have nb : nl ≤ 2000 := by rw [wnl]; exact mcnt_le 2000
  obtain ⟨hG, hKF, hKR, hL, hKE, hKS, hKW, hKT, hKM⟩ := id hC
  obtain ⟨hno, hla, hri, hnl, hrf, hhr⟩ := id hKM
  have hSn : CS G (Zf G A S0 now) M (61 + 10 * (now % 16)) := hKR.1 now (by omega) (by omega)
  have hwn : wS G (Zf G A S0 now) := wS_Zf hW hw0 now
  have wtq : ∀ d, (tp d).1 ≤ 5 ∧ (tp d).2.1 ≤ 100 ∧ (1 ≤ (tp d).1 ∧ (tp d).1 ≤ 4 → (tp d).2.1 ≤ 80) := fun d => ⟨(wtp d).1, (wtp d).2.1, (wtp d).2.2.2⟩
  rcases xix_cases x3 (n := gP G) (by omega) with ⟨ec3, hc3⟩ | ⟨k3, hk3, rfl, ec3⟩
  · skip
    refine xi_aload_n dX9_play_0 rfl ?_
    refine xi_getR dX9_play_1 fgX9_10 cc0 rfl ?_
    refine xi_iload dX9_play_4 rfl ?_
    refine xi_callV [.int x3] [] dX9_play_6 zX1_hasPlayer mlX9_200 cc1 rfl rfl rfl rfl rfl (Nat.le_of_ble_eq_true rfl) (Nat.le_of_ble_eq_true rfl) ⟨by decide, by decide⟩ ?_
    refine g_hasPF hW hG hc3 ?_
    show WP _ _ 9 _ [.int (xb false)] _ _
    refine xb_if_eq false 22 dX9_play_9 (by decide) rfl (fun _ => ?_) (fun z => absurd z (by decide))
    refine xi_iconst (v := (-1)) dX9_play_22 rfl ?_
    refine xi_iret (v := (-1)) dX9_play_23 rfl ?_
    have e : st_play (G, S0, now, late, risk, A, L, sq, nl, rf, hr, lg, w, tp) x0 x1 x2 x3 = (-1, (G, S0, now, late, risk, A, L, sq, nl, rf, hr, lg, w, tp)) := by simp only [st_play, ec3]
    rw [e] at h
    exact h M hC
  rcases xrg_cases x2 (lo := 0) (hi := 80) (by omega) (by omega) with ⟨ec2, hc2⟩ | ⟨k2, hk2, hl2, rfl, ec2⟩
  · skip
    refine xi_aload_n dX9_play_0 rfl ?_
    refine xi_getR dX9_play_1 fgX9_10 cc0 rfl ?_
    refine xi_iload dX9_play_4 rfl ?_
    refine xi_callV [.int (nI k3)] [] dX9_play_6 zX1_hasPlayer mlX9_200 cc1 rfl rfl rfl rfl rfl (Nat.le_of_ble_eq_true rfl) (Nat.le_of_ble_eq_true rfl) ⟨by decide, by decide⟩ ?_
    refine g_hasPT hW hG (k := k3) (by omega) ?_
    show WP _ _ 9 _ [.int (xb true)] _ _
    refine xb_if_eq true 22 dX9_play_9 (by decide) rfl (fun z => absurd z (by decide)) (fun _ => ?_)
    refine xi_iload_n dX9_play_12 rfl ?_
    refine xi_if_lt 22 dX9_play_13 (by decide) (fun h13 => ?_) (fun h13 => ?_)
    · skip
      refine xi_iconst (v := (-1)) dX9_play_22 rfl ?_
      refine xi_iret (v := (-1)) dX9_play_23 rfl ?_
      have e : st_play (G, S0, now, late, risk, A, L, sq, nl, rf, hr, lg, w, tp) x0 x1 x2 (nI k3) = (-1, (G, S0, now, late, risk, A, L, sq, nl, rf, hr, lg, w, tp)) := by simp only [st_play, ec3, ec2]
      rw [e] at h
      exact h M hC
    · skip
      refine xi_iload_n dX9_play_16 rfl ?_
      refine xi_bipush (v := 80) dX9_play_17 (by decide) ?_
      refine xi_icmp_le 24 dX9_play_19 (by decide) (fun z => hc2.elim (fun q => absurd q h13) (fun q => absurd q (Int32.not_lt.mpr z))) (fun h19 => ?_)
      refine xi_iconst (v := (-1)) dX9_play_22 rfl ?_
      refine xi_iret (v := (-1)) dX9_play_23 rfl ?_
      have e : st_play (G, S0, now, late, risk, A, L, sq, nl, rf, hr, lg, w, tp) x0 x1 x2 (nI k3) = (-1, (G, S0, now, late, risk, A, L, sq, nl, rf, hr, lg, w, tp)) := by simp only [st_play, ec3, ec2]
      rw [e] at h
      exact h M hC
  rcases xix_cases x0 (n := 6) (by omega) with ⟨ec0, hc0⟩ | ⟨k0, hk0, rfl, ec0⟩
  · skip
    refine xi_aload_n dX9_play_0 rfl ?_
    refine xi_getR dX9_play_1 fgX9_10 cc0 rfl ?_
    refine xi_iload dX9_play_4 rfl ?_
    refine xi_callV [.int (nI k3)] [] dX9_play_6 zX1_hasPlayer mlX9_200 cc1 rfl rfl rfl rfl rfl (Nat.le_of_ble_eq_true rfl) (Nat.le_of_ble_eq_true rfl) ⟨by decide, by decide⟩ ?_
    refine g_hasPT hW hG (k := k3) (by omega) ?_
    show WP _ _ 9 _ [.int (xb true)] _ _
    refine xb_if_eq true 22 dX9_play_9 (by decide) rfl (fun z => absurd z (by decide)) (fun _ => ?_)
    refine xi_iload_n dX9_play_12 rfl ?_
    refine xn_if_lt k2 22 dX9_play_13 (by decide) rfl (by omega) ?_
    refine xi_iload_n dX9_play_16 rfl ?_
    refine xi_bipush (v := 80) dX9_play_17 (by decide) ?_
    refine xn_icmp_le k2 80 24 dX9_play_19 (by decide) rfl rfl (by omega) (by omega) (fun h19 => ?_) (fun z => absurd z (by omega))
    refine xi_aload_n dX9_play_24 rfl ?_
    refine xi_iload_n dX9_play_25 rfl ?_
    refine xi_iconst (v := 4) dX9_play_26 rfl ?_
    refine xi_iconst (v := 4) dX9_play_27 rfl ?_
    refine xi_callV [.int x0, .int 4, .int 4] [] dX9_play_28 zX9_refuseBut mlX9_382 cc0 rfl rfl rfl rfl rfl (Nat.le_of_ble_eq_true rfl) (Nat.le_of_ble_eq_true rfl) ⟨by decide, by decide⟩ ?_
    refine c_but0 (lo := 4) (hi := 4) hc0 ?_
    show WP _ _ 31 _ [.int (-1)] _ _
    refine xi_istore (lv' := [some (.ref 0), some (.int x0), some (.int x1), some (.int (nI k2)), some (.int (nI k3)), some (.int (-1)), none, none, none]) dX9_play_31 (by decide) rfl ?_
    refine xi_iload dX9_play_33 rfl ?_
    refine xi_if_ge 41 dX9_play_35 (by decide) (fun z => absurd z (by decide)) (fun _ => ?_)
    refine xi_iload dX9_play_38 rfl ?_
    refine xi_iret (v := (-1)) dX9_play_40 rfl ?_
    have e : st_play (G, S0, now, late, risk, A, L, sq, nl, rf, hr, lg, w, tp) x0 x1 (nI k2) (nI k3) = (-1, (G, S0, now, late, risk, A, L, sq, nl, rf, hr, lg, w, tp)) := by simp only [st_play, ec3, ec2, ec0]
    rw [e] at h
    exact h M hC
  have z0 := wtq k0
  rcases (show ((tp k0).1 = 0) ∨ (¬ (tp k0).1 = 0 ∧ ¬ (tp k0).1 = 4) ∨ ((tp k0).1 = 4) by omega) with hs3 | hs3 | hs3
  · skip
    rcases xix_cases x1 (n := (tp k0).2.1) (by omega) with ⟨ec1, hc1⟩ | ⟨k1, hk1, rfl, ec1⟩
    · skip
      refine xi_aload_n dX9_play_0 rfl ?_
      refine xi_getR dX9_play_1 fgX9_10 cc0 rfl ?_
      refine xi_iload dX9_play_4 rfl ?_
      refine xi_callV [.int (nI k3)] [] dX9_play_6 zX1_hasPlayer mlX9_200 cc1 rfl rfl rfl rfl rfl (Nat.le_of_ble_eq_true rfl) (Nat.le_of_ble_eq_true rfl) ⟨by decide, by decide⟩ ?_
      refine g_hasPT hW hG (k := k3) (by omega) ?_
      show WP _ _ 9 _ [.int (xb true)] _ _
      refine xb_if_eq true 22 dX9_play_9 (by decide) rfl (fun z => absurd z (by decide)) (fun _ => ?_)
      refine xi_iload_n dX9_play_12 rfl ?_
      refine xn_if_lt k2 22 dX9_play_13 (by decide) rfl (by omega) ?_
      refine xi_iload_n dX9_play_16 rfl ?_
      refine xi_bipush (v := 80) dX9_play_17 (by decide) ?_
      refine xn_icmp_le k2 80 24 dX9_play_19 (by decide) rfl rfl (by omega) (by omega) (fun h19 => ?_) (fun z => absurd z (by omega))
      refine xi_aload_n dX9_play_24 rfl ?_
      refine xi_iload_n dX9_play_25 rfl ?_
      refine xi_iconst (v := 4) dX9_play_26 rfl ?_
      refine xi_iconst (v := 4) dX9_play_27 rfl ?_
      refine xi_callV [.int (nI k0), .int 4, .int 4] [] dX9_play_28 zX9_refuseBut mlX9_382 cc0 rfl rfl rfl rfl rfl (Nat.le_of_ble_eq_true rfl) (Nat.le_of_ble_eq_true rfl) ⟨by decide, by decide⟩ ?_
      refine c_butA hX hC (d := k0) (lo := 4) (hi := 4) (by omega) ⟨by omega, by omega⟩ (by omega) (fun M1 hC1 => ?_)
      show WP _ _ 31 _ [.int (-11)] _ _
      refine xi_istore (lv' := [some (.ref 0), some (.int (nI k0)), some (.int x1), some (.int (nI k2)), some (.int (nI k3)), some (.int (-11)), none, none, none]) dX9_play_31 (by decide) rfl ?_
      refine xi_iload dX9_play_33 rfl ?_
      refine xi_if_ge 41 dX9_play_35 (by decide) (fun z => absurd z (by decide)) (fun _ => ?_)
      refine xi_iload dX9_play_38 rfl ?_
      refine xi_iret (v := (-11)) dX9_play_40 rfl ?_
      simp only [st_play, ec3, ec2, ec0] at h
      rw [if_pos hs3] at h
      exact h _ hC1
    refine xi_aload_n dX9_play_0 rfl ?_
    refine xi_getR dX9_play_1 fgX9_10 cc0 rfl ?_
    refine xi_iload dX9_play_4 rfl ?_
    refine xi_callV [.int (nI k3)] [] dX9_play_6 zX1_hasPlayer mlX9_200 cc1 rfl rfl rfl rfl rfl (Nat.le_of_ble_eq_true rfl) (Nat.le_of_ble_eq_true rfl) ⟨by decide, by decide⟩ ?_
    refine g_hasPT hW hG (k := k3) (by omega) ?_
    show WP _ _ 9 _ [.int (xb true)] _ _
    refine xb_if_eq true 22 dX9_play_9 (by decide) rfl (fun z => absurd z (by decide)) (fun _ => ?_)
    refine xi_iload_n dX9_play_12 rfl ?_
    refine xn_if_lt k2 22 dX9_play_13 (by decide) rfl (by omega) ?_
    refine xi_iload_n dX9_play_16 rfl ?_
    refine xi_bipush (v := 80) dX9_play_17 (by decide) ?_
    refine xn_icmp_le k2 80 24 dX9_play_19 (by decide) rfl rfl (by omega) (by omega) (fun h19 => ?_) (fun z => absurd z (by omega))
    refine xi_aload_n dX9_play_24 rfl ?_
    refine xi_iload_n dX9_play_25 rfl ?_
    refine xi_iconst (v := 4) dX9_play_26 rfl ?_
    refine xi_iconst (v := 4) dX9_play_27 rfl ?_
    refine xi_callV [.int (nI k0), .int 4, .int 4] [] dX9_play_28 zX9_refuseBut mlX9_382 cc0 rfl rfl rfl rfl rfl (Nat.le_of_ble_eq_true rfl) (Nat.le_of_ble_eq_true rfl) ⟨by decide, by decide⟩ ?_
    refine c_butA hX hC (d := k0) (lo := 4) (hi := 4) (by omega) ⟨by omega, by omega⟩ (by omega) (fun M1 hC1 => ?_)
    show WP _ _ 31 _ [.int (-11)] _ _
    refine xi_istore (lv' := [some (.ref 0), some (.int (nI k0)), some (.int (nI k1)), some (.int (nI k2)), some (.int (nI k3)), some (.int (-11)), none, none, none]) dX9_play_31 (by decide) rfl ?_
    refine xi_iload dX9_play_33 rfl ?_
    refine xi_if_ge 41 dX9_play_35 (by decide) (fun z => absurd z (by decide)) (fun _ => ?_)
    refine xi_iload dX9_play_38 rfl ?_
    refine xi_iret (v := (-11)) dX9_play_40 rfl ?_
    simp only [st_play, ec3, ec2, ec0] at h
    rw [if_pos hs3] at h
    exact h _ hC1
  · skip
    rcases xix_cases x1 (n := (tp k0).2.1) (by omega) with ⟨ec1, hc1⟩ | ⟨k1, hk1, rfl, ec1⟩
    · skip
      refine xi_aload_n dX9_play_0 rfl ?_
      refine xi_getR dX9_play_1 fgX9_10 cc0 rfl ?_
      refine xi_iload dX9_play_4 rfl ?_
      refine xi_callV [.int (nI k3)] [] dX9_play_6 zX1_hasPlayer mlX9_200 cc1 rfl rfl rfl rfl rfl (Nat.le_of_ble_eq_true rfl) (Nat.le_of_ble_eq_true rfl) ⟨by decide, by decide⟩ ?_
      refine g_hasPT hW hG (k := k3) (by omega) ?_
      show WP _ _ 9 _ [.int (xb true)] _ _
      refine xb_if_eq true 22 dX9_play_9 (by decide) rfl (fun z => absurd z (by decide)) (fun _ => ?_)
      refine xi_iload_n dX9_play_12 rfl ?_
      refine xn_if_lt k2 22 dX9_play_13 (by decide) rfl (by omega) ?_
      refine xi_iload_n dX9_play_16 rfl ?_
      refine xi_bipush (v := 80) dX9_play_17 (by decide) ?_
      refine xn_icmp_le k2 80 24 dX9_play_19 (by decide) rfl rfl (by omega) (by omega) (fun h19 => ?_) (fun z => absurd z (by omega))
      refine xi_aload_n dX9_play_24 rfl ?_
      refine xi_iload_n dX9_play_25 rfl ?_
      refine xi_iconst (v := 4) dX9_play_26 rfl ?_
      refine xi_iconst (v := 4) dX9_play_27 rfl ?_
      refine xi_callV [.int (nI k0), .int 4, .int 4] [] dX9_play_28 zX9_refuseBut mlX9_382 cc0 rfl rfl rfl rfl rfl (Nat.le_of_ble_eq_true rfl) (Nat.le_of_ble_eq_true rfl) ⟨by decide, by decide⟩ ?_
      refine c_butB hX hC (d := k0) (lo := 4) (hi := 4) (by omega) ⟨by omega, by omega⟩ (by omega) (by omega) (fun M1 hC1 => ?_)
      show WP _ _ 31 _ [.int (-12)] _ _
      refine xi_istore (lv' := [some (.ref 0), some (.int (nI k0)), some (.int x1), some (.int (nI k2)), some (.int (nI k3)), some (.int (-12)), none, none, none]) dX9_play_31 (by decide) rfl ?_
      refine xi_iload dX9_play_33 rfl ?_
      refine xi_if_ge 41 dX9_play_35 (by decide) (fun z => absurd z (by decide)) (fun _ => ?_)
      refine xi_iload dX9_play_38 rfl ?_
      refine xi_iret (v := (-12)) dX9_play_40 rfl ?_
      simp only [st_play, ec3, ec2, ec0] at h
      rw [if_neg hs3.1, if_pos hs3.2] at h
      exact h _ hC1
    refine xi_aload_n dX9_play_0 rfl ?_
    refine xi_getR dX9_play_1 fgX9_10 cc0 rfl ?_
    refine xi_iload dX9_play_4 rfl ?_
    refine xi_callV [.int (nI k3)] [] dX9_play_6 zX1_hasPlayer mlX9_200 cc1 rfl rfl rfl rfl rfl (Nat.le_of_ble_eq_true rfl) (Nat.le_of_ble_eq_true rfl) ⟨by decide, by decide⟩ ?_
    refine g_hasPT hW hG (k := k3) (by omega) ?_
    show WP _ _ 9 _ [.int (xb true)] _ _
    refine xb_if_eq true 22 dX9_play_9 (by decide) rfl (fun z => absurd z (by decide)) (fun _ => ?_)
    refine xi_iload_n dX9_play_12 rfl ?_
    refine xn_if_lt k2 22 dX9_play_13 (by decide) rfl (by omega) ?_
    refine xi_iload_n dX9_play_16 rfl ?_
    refine xi_bipush (v := 80) dX9_play_17 (by decide) ?_
    refine xn_icmp_le k2 80 24 dX9_play_19 (by decide) rfl rfl (by omega) (by omega) (fun h19 => ?_) (fun z => absurd z (by omega))
    refine xi_aload_n dX9_play_24 rfl ?_
    refine xi_iload_n dX9_play_25 rfl ?_
    refine xi_iconst (v := 4) dX9_play_26 rfl ?_
    refine xi_iconst (v := 4) dX9_play_27 rfl ?_
    refine xi_callV [.int (nI k0), .int 4, .int 4] [] dX9_play_28 zX9_refuseBut mlX9_382 cc0 rfl rfl rfl rfl rfl (Nat.le_of_ble_eq_true rfl) (Nat.le_of_ble_eq_true rfl) ⟨by decide, by decide⟩ ?_
    refine c_butB hX hC (d := k0) (lo := 4) (hi := 4) (by omega) ⟨by omega, by omega⟩ (by omega) (by omega) (fun M1 hC1 => ?_)
    show WP _ _ 31 _ [.int (-12)] _ _
    refine xi_istore (lv' := [some (.ref 0), some (.int (nI k0)), some (.int (nI k1)), some (.int (nI k2)), some (.int (nI k3)), some (.int (-12)), none, none, none]) dX9_play_31 (by decide) rfl ?_
    refine xi_iload dX9_play_33 rfl ?_
    refine xi_if_ge 41 dX9_play_35 (by decide) (fun z => absurd z (by decide)) (fun _ => ?_)
    refine xi_iload dX9_play_38 rfl ?_
    refine xi_iret (v := (-12)) dX9_play_40 rfl ?_
    simp only [st_play, ec3, ec2, ec0] at h
    rw [if_neg hs3.1, if_pos hs3.2] at h
    exact h _ hC1
  · skip
    rcases xix_cases x1 (n := (tp k0).2.1) (by omega) with ⟨ec1, hc1⟩ | ⟨k1, hk1, rfl, ec1⟩
    · skip
      refine xi_aload_n dX9_play_0 rfl ?_
      refine xi_getR dX9_play_1 fgX9_10 cc0 rfl ?_
      refine xi_iload dX9_play_4 rfl ?_
      refine xi_callV [.int (nI k3)] [] dX9_play_6 zX1_hasPlayer mlX9_200 cc1 rfl rfl rfl rfl rfl (Nat.le_of_ble_eq_true rfl) (Nat.le_of_ble_eq_true rfl) ⟨by decide, by decide⟩ ?_
      refine g_hasPT hW hG (k := k3) (by omega) ?_
      show WP _ _ 9 _ [.int (xb true)] _ _
      refine xb_if_eq true 22 dX9_play_9 (by decide) rfl (fun z => absurd z (by decide)) (fun _ => ?_)
      refine xi_iload_n dX9_play_12 rfl ?_
      refine xn_if_lt k2 22 dX9_play_13 (by decide) rfl (by omega) ?_
      refine xi_iload_n dX9_play_16 rfl ?_
      refine xi_bipush (v := 80) dX9_play_17 (by decide) ?_
      refine xn_icmp_le k2 80 24 dX9_play_19 (by decide) rfl rfl (by omega) (by omega) (fun h19 => ?_) (fun z => absurd z (by omega))
      refine xi_aload_n dX9_play_24 rfl ?_
      refine xi_iload_n dX9_play_25 rfl ?_
      refine xi_iconst (v := 4) dX9_play_26 rfl ?_
      refine xi_iconst (v := 4) dX9_play_27 rfl ?_
      refine xi_callV [.int (nI k0), .int 4, .int 4] [] dX9_play_28 zX9_refuseBut mlX9_382 cc0 rfl rfl rfl rfl rfl (Nat.le_of_ble_eq_true rfl) (Nat.le_of_ble_eq_true rfl) ⟨by decide, by decide⟩ ?_
      refine c_butC hX hC (d := k0) (lo := 4) (hi := 4) (by omega) ⟨by omega, by omega⟩ (by omega) (by omega) ?_
      show WP _ _ 31 _ [.int (nI 0)] _ _
      refine xi_istore (lv' := [some (.ref 0), some (.int (nI k0)), some (.int x1), some (.int (nI k2)), some (.int (nI k3)), some (.int (nI 0)), none, none, none]) dX9_play_31 (by decide) rfl ?_
      refine xi_iload dX9_play_33 rfl ?_
      refine xn_if_ge 0 41 dX9_play_35 (by decide) rfl (by omega) ?_
      refine xi_aload_n dX9_play_41 rfl ?_
      refine xi_getR dX9_play_42 fgX9_60 cc0 rfl ?_
      refine xi_iload_n dX9_play_45 rfl ?_
      refine xe_aald6 (j := (43 + 3 * k0)) k0 dX9_play_46 cc21 (by decide) rfl (by omega) (if_pos (by omega)) ?_
      refine xi_astore (lv' := [some (.ref 0), some (.int (nI k0)), some (.int x1), some (.int (nI k2)), some (.int (nI k3)), some (.int (nI 0)), some (.ref (43 + 3 * k0)), none, none]) dX9_play_47 (by decide) rfl ?_
      refine xi_iconst (v := 0) dX9_play_49 rfl ?_
      refine xi_istore (lv' := [some (.ref 0), some (.int (nI k0)), some (.int x1), some (.int (nI k2)), some (.int (nI k3)), some (.int (nI 0)), some (.ref (43 + 3 * k0)), some (.int 0), none]) dX9_play_50 (by decide) rfl ?_
      refine xi_iload dX9_play_52 rfl ?_
      refine xat 54 rfl ?_
      refine xi_iload_n dX9_play_54 rfl ?_
      refine xn_icmp_ge 0 k2 107 dX9_play_55 (by decide) rfl rfl (by omega) (by omega) (fun h55 => ?_) (fun h55 => ?_)
      · have n0 : k2 = 0 := by omega
        refine xi_iload_n dX9_play_107 rfl ?_
        refine xi_iret (v := nI k2) dX9_play_108 rfl ?_
        simp only [st_play, ec3, ec2, ec0] at h
        rw [if_neg (by omega), if_neg (by omega)] at h
        simp only [ec1] at h
        rw [if_pos n0] at h
        subst n0
        exact h M hC
      · have n0 : ¬ k2 = 0 := by omega
        refine xi_iload_n dX9_play_58 rfl ?_
        refine xi_iload dX9_play_59 rfl ?_
        refine xe_iadd dX9_play_61 (v := x1) (Int32.add_zero _) ?_
        refine xi_istore (lv' := [some (.ref 0), some (.int (nI k0)), some (.int x1), some (.int (nI k2)), some (.int (nI k3)), some (.int (nI 0)), some (.ref (43 + 3 * k0)), some (.int 0), some (.int x1)]) dX9_play_62 (by decide) rfl ?_
        refine xi_aload dX9_play_64 rfl ?_
        refine xi_iload dX9_play_66 rfl ?_
        refine xi_callV [.int x1] [] dX9_play_68 zX8_hasPlace mlX9_386 (tpo (isTp_d (d := k0) (by omega))) rfl rfl rfl rfl rfl (Nat.le_of_ble_eq_true rfl) (Nat.le_of_ble_eq_true rfl) ⟨by decide, by decide⟩ ?_
        refine t_hasF (isTp_d (d := k0) hk0) (hKT k0 hk0).2.1 hc1 (wtp k0).2.1 ?_
        show WP _ _ 71 _ [.int (xb false)] _ _
        refine xb_if_ne false 81 dX9_play_71 (by decide) rfl (fun z => absurd z (by decide)) (fun _ => ?_)
        refine xi_aload_n dX9_play_74 rfl ?_
        refine xi_bipush (v := (-13)) dX9_play_75 (by decide) ?_
        refine xi_callV [.int (-13)] [] dX9_play_77 zX9_refuse mlX9_369 cc0 rfl rfl rfl rfl rfl (Nat.le_of_ble_eq_true rfl) (Nat.le_of_ble_eq_true rfl) ⟨by decide, by decide⟩ ?_
        refine c_refuse (x := (-13)) hhr ?_
        show WP _ _ 80 _ [.int (-13)] _ _
        refine xi_iret (v := (-13)) dX9_play_80 rfl ?_
        simp only [st_play, ec3, ec2, ec0] at h
        rw [if_neg (by omega), if_neg (by omega)] at h
        simp only [ec1] at h
        rw [if_neg n0] at h
        exact h _ (RepC_ref hC)
    refine xi_aload_n dX9_play_0 rfl ?_
    refine xi_getR dX9_play_1 fgX9_10 cc0 rfl ?_
    refine xi_iload dX9_play_4 rfl ?_
    refine xi_callV [.int (nI k3)] [] dX9_play_6 zX1_hasPlayer mlX9_200 cc1 rfl rfl rfl rfl rfl (Nat.le_of_ble_eq_true rfl) (Nat.le_of_ble_eq_true rfl) ⟨by decide, by decide⟩ ?_
    refine g_hasPT hW hG (k := k3) (by omega) ?_
    show WP _ _ 9 _ [.int (xb true)] _ _
    refine xb_if_eq true 22 dX9_play_9 (by decide) rfl (fun z => absurd z (by decide)) (fun _ => ?_)
    refine xi_iload_n dX9_play_12 rfl ?_
    refine xn_if_lt k2 22 dX9_play_13 (by decide) rfl (by omega) ?_
    refine xi_iload_n dX9_play_16 rfl ?_
    refine xi_bipush (v := 80) dX9_play_17 (by decide) ?_
    refine xn_icmp_le k2 80 24 dX9_play_19 (by decide) rfl rfl (by omega) (by omega) (fun h19 => ?_) (fun z => absurd z (by omega))
    refine xi_aload_n dX9_play_24 rfl ?_
    refine xi_iload_n dX9_play_25 rfl ?_
    refine xi_iconst (v := 4) dX9_play_26 rfl ?_
    refine xi_iconst (v := 4) dX9_play_27 rfl ?_
    refine xi_callV [.int (nI k0), .int 4, .int 4] [] dX9_play_28 zX9_refuseBut mlX9_382 cc0 rfl rfl rfl rfl rfl (Nat.le_of_ble_eq_true rfl) (Nat.le_of_ble_eq_true rfl) ⟨by decide, by decide⟩ ?_
    refine c_butC hX hC (d := k0) (lo := 4) (hi := 4) (by omega) ⟨by omega, by omega⟩ (by omega) (by omega) ?_
    show WP _ _ 31 _ [.int (nI 0)] _ _
    refine xi_istore (lv' := [some (.ref 0), some (.int (nI k0)), some (.int (nI k1)), some (.int (nI k2)), some (.int (nI k3)), some (.int (nI 0)), none, none, none]) dX9_play_31 (by decide) rfl ?_
    refine xi_iload dX9_play_33 rfl ?_
    refine xn_if_ge 0 41 dX9_play_35 (by decide) rfl (by omega) ?_
    refine xi_aload_n dX9_play_41 rfl ?_
    refine xi_getR dX9_play_42 fgX9_60 cc0 rfl ?_
    refine xi_iload_n dX9_play_45 rfl ?_
    refine xe_aald6 (j := (43 + 3 * k0)) k0 dX9_play_46 cc21 (by decide) rfl (by omega) (if_pos (by omega)) ?_
    refine xi_astore (lv' := [some (.ref 0), some (.int (nI k0)), some (.int (nI k1)), some (.int (nI k2)), some (.int (nI k3)), some (.int (nI 0)), some (.ref (43 + 3 * k0)), none, none]) dX9_play_47 (by decide) rfl ?_
    refine xi_iconst (v := 0) dX9_play_49 rfl ?_
    refine xi_istore (lv' := [some (.ref 0), some (.int (nI k0)), some (.int (nI k1)), some (.int (nI k2)), some (.int (nI k3)), some (.int (nI 0)), some (.ref (43 + 3 * k0)), some (.int 0), none]) dX9_play_50 (by decide) rfl ?_
    simp only [st_play, ec3, ec2, ec0] at h
    rw [if_neg (by omega), if_neg (by omega)] at h
    simp only [ec1] at h
    exact pl_c (m := (tp k0).2.1) hk0 hl2 hk1 (by omega) k2 0 _ M (by omega) hX hk3 rfl rfl hC h

set_option maxHeartbeats 4000000 in
set_option maxRecDepth 100000 in
theorem pl_m {Q : Option Value → xM → Prop} {R : Nat → Int64} {m i p d n : Nat} (hd : d < 6) (hn : n ≤ 80) (hi : i < m) (hm : m ≤ 80) : ∀ (f k : Nat) (X : xX) (M : xM), k + f = n → k ≤ m → wX X → p < gP X.1 → (xtp X d).2.1 = m → (xtp X d).2.2.2.1 = R → (xtp X d).1 = 4 → RepM X M → (∀ M2, RepM (mplay R m i p f k X).2 M2 → Q (some (.int (mplay R m i p f k X).1)) M2) → WP shM mX10_play 64 [some (.ref 0), some (.int (nI d)), some (.int (nI i)), some (.int (nI n)), some (.int (nI p)), some (.int (nI k))] [] M Q := by
  intro f
  induction f with
  | zero =>
    intro k X M hf hkm hX hp em eR e4 hC h
    obtain ⟨G, S0, now, late, risk, A, L, sq, nl, rf, hr, lg, w, tp⟩ := X
    obtain ⟨hW, hw0, wn, wl, wr, wA_, wsq, wnl, wmo, wtk, wwt, wtp, wO0, wB0⟩ := id hX
    obtain ⟨b1, b2, b3, b4, b5, b6, b7, b8, b9, wmap, wlink, wk0, wk1, b10, b11, wword⟩ := id hW
    have nb : nl ≤ 2000 := by rw [wnl]; exact mcnt_le 2000
    obtain ⟨hG, hNS, hNA, hNL, hNH, hNE, hNQ, hNW, hNT, hNM⟩ := id hC
    obtain ⟨hno, hla, hri, hnl, hrf, hhr⟩ := id hNM
    obtain ⟨s, es⟩ : ∃ s, s = 112 * now := ⟨_, rfl⟩
    have hs : s ≤ 56000 := by omega
    have hS : RM G (Zf G A S0 now) M s := by rw [es]; exact hNS.1 now (Nat.le_refl _)
    have hw : wS G (Zf G A S0 now) := wS_Zf hW hw0 now
    change (tp d).2.1 = m at em
    change (tp d).2.2.2.1 = R at eR
    change p < gP G at hp
    change (tp d).1 = 4 at e4
    refine xi_iload dX10_play_64 rfl ?_
    refine xi_iload_n dX10_play_66 rfl ?_
    refine xn_icmp_ge k n 126 dX10_play_67 (by decide) rfl rfl (by omega) (by omega) (fun h67 => ?_) (fun z => absurd z (by omega))
    refine xi_iload_n dX10_play_126 rfl ?_
    refine xi_iret (v := nI n) dX10_play_127 rfl ?_
    obtain rfl : k = n := by omega
    exact h M hC
  | succ f ih =>
    intro k X M hf hkm hX hp em eR e4 hC h
    obtain ⟨G, S0, now, late, risk, A, L, sq, nl, rf, hr, lg, w, tp⟩ := X
    obtain ⟨hW, hw0, wn, wl, wr, wA_, wsq, wnl, wmo, wtk, wwt, wtp, wO0, wB0⟩ := id hX
    obtain ⟨b1, b2, b3, b4, b5, b6, b7, b8, b9, wmap, wlink, wk0, wk1, b10, b11, wword⟩ := id hW
    have nb : nl ≤ 2000 := by rw [wnl]; exact mcnt_le 2000
    obtain ⟨hG, hNS, hNA, hNL, hNH, hNE, hNQ, hNW, hNT, hNM⟩ := id hC
    obtain ⟨hno, hla, hri, hnl, hrf, hhr⟩ := id hNM
    obtain ⟨s, es⟩ : ∃ s, s = 112 * now := ⟨_, rfl⟩
    have hs : s ≤ 56000 := by omega
    have hS : RM G (Zf G A S0 now) M s := by rw [es]; exact hNS.1 now (Nat.le_refl _)
    have hw : wS G (Zf G A S0 now) := wS_Zf hW hw0 now
    change (tp d).2.1 = m at em
    change (tp d).2.2.2.1 = R at eR
    change p < gP G at hp
    change (tp d).1 = 4 at e4
    rw [mplay] at h
    by_cases hik : i + k < m
    · rw [if_pos hik] at h
      refine xi_iload dX10_play_64 rfl ?_
      refine xi_iload_n dX10_play_66 rfl ?_
      refine xn_icmp_ge k n 126 dX10_play_67 (by decide) rfl rfl (by omega) (by omega) (fun z => absurd z (by omega)) (fun h67 => ?_)
      refine xi_iload_n dX10_play_70 rfl ?_
      refine xn_if_lt i 87 dX10_play_71 (by decide) rfl (by omega) ?_
      refine xi_iload_n dX10_play_74 rfl ?_
      refine xi_aload_n dX10_play_75 rfl ?_
      refine xi_getR dX10_play_76 fgX10_83 mm0 rfl ?_
      refine xi_iload_n dX10_play_79 rfl ?_
      refine xe_iald (v := nI m) d dX10_play_80 mm19 (by decide) rfl (by omega) (((hNT d hd).2.1 (by omega) (by omega)).1.trans (by rw [em])) ?_
      refine xi_iload dX10_play_81 rfl ?_
      refine xat 83 rfl ?_
      refine xe_isub dX10_play_83 (v := nI (m - k)) (pk_sub (by omega)) ?_
      refine xn_icmp_lt i (m - k) 94 dX10_play_84 (by decide) rfl rfl (by omega) (by omega) (fun h84 => ?_) (fun z => absurd z (by omega))
      refine xi_aload_n dX10_play_94 rfl ?_
      refine xi_iload dX10_play_95 rfl ?_
      refine xi_aload_n dX10_play_97 rfl ?_
      refine xi_getR dX10_play_98 fgX10_89 mm0 rfl ?_
      refine xi_bipush (v := 100) dX10_play_101 (by decide) ?_
      refine xi_iload_n dX10_play_103 rfl ?_
      refine xe_imul dX10_play_104 (v := nI (100 * d)) (pk_mul 100 d) ?_
      refine xi_iload_n dX10_play_105 rfl ?_
      refine xe_iadd dX10_play_106 (v := nI (100 * d + i)) (nI_add (100 * d) i) ?_
      refine xi_iload dX10_play_107 rfl ?_
      refine xat 109 rfl ?_
      refine xe_iadd dX10_play_109 (v := nI (100 * d + i + k)) (nI_add (100 * d + i) k) ?_
      refine xe_lald (v := (R (i + k))) (100 * d + i + k) dX10_play_110 mm21 (by decide) rfl (by omega) (by rw [← eR, Nat.add_assoc]; exact ((hNT d hd).2.1 (by omega) (by omega)).2 (i + k) (by omega)) ?_
      refine xi_callV [.int (nI p), .long (R (i + k))] [] dX10_play_111 zX10_feed mlX10_300 mm0 rfl rfl rfl rfl rfl (Nat.le_of_ble_eq_true rfl) (Nat.le_of_ble_eq_true rfl) ⟨by decide, by decide⟩ ?_
      refine o_rec hX hC (p := p) (b := R (i + k)) hp (fun M1 hC1 => ?_)
      show WP _ _ 114 _ [.int ((mrec (G, S0, now, late, risk, A, L, sq, nl, rf, hr, lg, w, tp) p (R (i + k))).1)] _ _
      refine xi_if_ge 120 dX10_play_114 (by decide) (fun h114 => ?_) (fun h114 => ?_)
      · skip
        refine xi_iinc (v := nI (k + 1)) (lv' := [some (.ref 0), some (.int (nI d)), some (.int (nI i)), some (.int (nI n)), some (.int (nI p)), some (.int (nI (k + 1)))]) dX10_play_120 rfl (xinc k) (by decide) rfl ?_
        refine xi_goto 64 dX10_play_123 (by decide) ?_
        rw [if_neg (c := (mrec (G, S0, now, late, risk, A, L, sq, nl, rf, hr, lg, w, tp) p (R (i + k))).1 < 0) (Int32.not_lt.mpr h114)] at h
        refine ih (k + 1) _ M1 (by omega) (by omega) (wX_rec hX hp) (by rw [mrec_keep.1]; exact hp) (by rw [mrec_keep.2]; exact em) (by rw [mrec_keep.2]; exact eR) (by rw [mrec_keep.2]; exact e4) hC1 h
      · skip
        refine xi_iload dX10_play_117 rfl ?_
        refine xi_iret (v := nI k) dX10_play_119 rfl ?_
        rw [if_pos (c := (mrec (G, S0, now, late, risk, A, L, sq, nl, rf, hr, lg, w, tp) p (R (i + k))).1 < 0) (Int32.not_le.mp h114)] at h
        exact h M1 hC1
    · rw [if_neg hik] at h
      refine xi_iload dX10_play_64 rfl ?_
      refine xi_iload_n dX10_play_66 rfl ?_
      refine xn_icmp_ge k n 126 dX10_play_67 (by decide) rfl rfl (by omega) (by omega) (fun z => absurd z (by omega)) (fun h67 => ?_)
      refine xi_iload_n dX10_play_70 rfl ?_
      refine xn_if_lt i 87 dX10_play_71 (by decide) rfl (by omega) ?_
      refine xi_iload_n dX10_play_74 rfl ?_
      refine xi_aload_n dX10_play_75 rfl ?_
      refine xi_getR dX10_play_76 fgX10_83 mm0 rfl ?_
      refine xi_iload_n dX10_play_79 rfl ?_
      refine xe_iald (v := nI m) d dX10_play_80 mm19 (by decide) rfl (by omega) (((hNT d hd).2.1 (by omega) (by omega)).1.trans (by rw [em])) ?_
      refine xi_iload dX10_play_81 rfl ?_
      refine xat 83 rfl ?_
      refine xe_isub dX10_play_83 (v := nI (m - k)) (pk_sub (by omega)) ?_
      refine xn_icmp_lt i (m - k) 94 dX10_play_84 (by decide) rfl rfl (by omega) (by omega) (fun z => absurd z (by omega)) (fun h84 => ?_)
      refine xi_aload_n dX10_play_87 rfl ?_
      refine xi_bipush (v := (-13)) dX10_play_88 (by decide) ?_
      refine xi_callV [.int (-13)] [] dX10_play_90 zX10_host mlX10_293 mm0 rfl rfl rfl rfl rfl (Nat.le_of_ble_eq_true rfl) (Nat.le_of_ble_eq_true rfl) ⟨by decide, by decide⟩ ?_
      refine o_host (x := (-13)) hhr ?_
      show WP _ _ 93 _ [.int (-13)] _ _
      refine xi_iret (v := (-13)) dX10_play_93 rfl ?_
      exact h _ (RepM_ref hC)

set_option maxHeartbeats 4000000 in
set_option maxRecDepth 100000 in
theorem mo_play {X : xX} {M : xM} {Q : Option Value → xM → Prop} (hX : wX X) (hC : RepM X M) (x0 : Int32) (x1 : Int32) (x2 : Int32) (x3 : Int32) (h : ∀ M2, RepM (st_play X x0 x1 x2 x3).2 M2 → Q (some (.int (st_play X x0 x1 x2 x3).1)) M2) : WP shM mX10_play 0 [some (.ref 0), some (.int x0), some (.int x1), some (.int x2), some (.int x3), none] [] M Q := by
  obtain ⟨G, S0, now, late, risk, A, L, sq, nl, rf, hr, lg, w, tp⟩ := X
  obtain ⟨hW, hw0, wn, wl, wr, wA_, wsq, wnl, wmo, wtk, wwt, wtp, wO0, wB0⟩ := id hX
  obtain ⟨b1, b2, b3, b4, b5, b6, b7, b8, b9, wmap, wlink, wk0, wk1, b10, b11, wword⟩ := id hW
  have nb : nl ≤ 2000 := by rw [wnl]; exact mcnt_le 2000
  obtain ⟨hG, hNS, hNA, hNL, hNH, hNE, hNQ, hNW, hNT, hNM⟩ := id hC
  obtain ⟨hno, hla, hri, hnl, hrf, hhr⟩ := id hNM
  obtain ⟨s, es⟩ : ∃ s, s = 112 * now := ⟨_, rfl⟩
  have hs : s ≤ 56000 := by omega
  have hS : RM G (Zf G A S0 now) M s := by rw [es]; exact hNS.1 now (Nat.le_refl _)
  have hw : wS G (Zf G A S0 now) := wS_Zf hW hw0 now
  have wtq : ∀ d, (tp d).1 ≤ 5 ∧ (tp d).2.1 ≤ 100 ∧ (1 ≤ (tp d).1 ∧ (tp d).1 ≤ 4 → (tp d).2.1 ≤ 80) := fun d => ⟨(wtp d).1, (wtp d).2.1, (wtp d).2.2.2⟩
  rcases xix_cases x3 (n := gP G) (by omega) with ⟨ec3, hc3⟩ | ⟨k3, hk3, rfl, ec3⟩
  · skip
    refine xi_iload_n dX10_play_0 rfl ?_
    refine xi_callS [.int x0] [] dX10_play_1 zX10_isTape mlX10_290 rfl rfl rfl (Nat.le_of_ble_eq_true rfl) (Nat.le_of_ble_eq_true rfl) ⟨by decide, by decide⟩ ?_
    refine n_isTpR ?_
    show WP _ _ 4 _ [.int (xb ((xix x0 6).isSome))] _ _
    refine xb_if_eq ((xix x0 6).isSome) 26 dX10_play_4 (by decide) rfl (fun h4 => ?_) (fun h4 => ?_)
    · skip
      refine xi_iconst (v := (-1)) dX10_play_26 rfl ?_
      refine xi_iret (v := (-1)) dX10_play_27 rfl ?_
      have e : st_play (G, S0, now, late, risk, A, L, sq, nl, rf, hr, lg, w, tp) x0 x1 x2 x3 = (-1, (G, S0, now, late, risk, A, L, sq, nl, rf, hr, lg, w, tp)) := by simp only [st_play, ec3]
      rw [e] at h
      exact h M hC
    · skip
      refine xi_aload_n dX10_play_7 rfl ?_
      refine xi_iload dX10_play_8 rfl ?_
      refine xi_callV [.int x3] [] dX10_play_10 zX10_isPlayer mlX10_272 mm0 rfl rfl rfl rfl rfl (Nat.le_of_ble_eq_true rfl) (Nat.le_of_ble_eq_true rfl) ⟨by decide, by decide⟩ ?_
      refine n_isPF hW hG hc3 ?_
      show WP _ _ 13 _ [.int (xb false)] _ _
      refine xb_if_eq false 26 dX10_play_13 (by decide) rfl (fun _ => ?_) (fun z => absurd z (by decide))
      refine xi_iconst (v := (-1)) dX10_play_26 rfl ?_
      refine xi_iret (v := (-1)) dX10_play_27 rfl ?_
      have e : st_play (G, S0, now, late, risk, A, L, sq, nl, rf, hr, lg, w, tp) x0 x1 x2 x3 = (-1, (G, S0, now, late, risk, A, L, sq, nl, rf, hr, lg, w, tp)) := by simp only [st_play, ec3]
      rw [e] at h
      exact h M hC
  rcases xrg_cases x2 (lo := 0) (hi := 80) (by omega) (by omega) with ⟨ec2, hc2⟩ | ⟨k2, hk2, hl2, rfl, ec2⟩
  · skip
    refine xi_iload_n dX10_play_0 rfl ?_
    refine xi_callS [.int x0] [] dX10_play_1 zX10_isTape mlX10_290 rfl rfl rfl (Nat.le_of_ble_eq_true rfl) (Nat.le_of_ble_eq_true rfl) ⟨by decide, by decide⟩ ?_
    refine n_isTpR ?_
    show WP _ _ 4 _ [.int (xb ((xix x0 6).isSome))] _ _
    refine xb_if_eq ((xix x0 6).isSome) 26 dX10_play_4 (by decide) rfl (fun h4 => ?_) (fun h4 => ?_)
    · skip
      refine xi_iconst (v := (-1)) dX10_play_26 rfl ?_
      refine xi_iret (v := (-1)) dX10_play_27 rfl ?_
      have e : st_play (G, S0, now, late, risk, A, L, sq, nl, rf, hr, lg, w, tp) x0 x1 x2 (nI k3) = (-1, (G, S0, now, late, risk, A, L, sq, nl, rf, hr, lg, w, tp)) := by simp only [st_play, ec3, ec2]
      rw [e] at h
      exact h M hC
    · skip
      refine xi_aload_n dX10_play_7 rfl ?_
      refine xi_iload dX10_play_8 rfl ?_
      refine xi_callV [.int (nI k3)] [] dX10_play_10 zX10_isPlayer mlX10_272 mm0 rfl rfl rfl rfl rfl (Nat.le_of_ble_eq_true rfl) (Nat.le_of_ble_eq_true rfl) ⟨by decide, by decide⟩ ?_
      refine n_isPT hW hG (k := k3) (by omega) ?_
      show WP _ _ 13 _ [.int (xb true)] _ _
      refine xb_if_eq true 26 dX10_play_13 (by decide) rfl (fun z => absurd z (by decide)) (fun _ => ?_)
      refine xi_iload_n dX10_play_16 rfl ?_
      refine xi_iconst (v := 0) dX10_play_17 rfl ?_
      refine xi_bipush (v := 80) dX10_play_18 (by decide) ?_
      refine xi_callS [.int x2, .int 0, .int 80] [] dX10_play_20 zX10_in mlX10_137 rfl rfl rfl (Nat.le_of_ble_eq_true rfl) (Nat.le_of_ble_eq_true rfl) ⟨by decide, by decide⟩ ?_
      refine n_inF (l := 0) (r := 80) hc2 ?_
      show WP _ _ 23 _ [.int (xb false)] _ _
      refine xb_if_ne false 28 dX10_play_23 (by decide) rfl (fun z => absurd z (by decide)) (fun _ => ?_)
      refine xi_iconst (v := (-1)) dX10_play_26 rfl ?_
      refine xi_iret (v := (-1)) dX10_play_27 rfl ?_
      have e : st_play (G, S0, now, late, risk, A, L, sq, nl, rf, hr, lg, w, tp) x0 x1 x2 (nI k3) = (-1, (G, S0, now, late, risk, A, L, sq, nl, rf, hr, lg, w, tp)) := by simp only [st_play, ec3, ec2]
      rw [e] at h
      exact h M hC
  rcases xix_cases x0 (n := 6) (by omega) with ⟨ec0, hc0⟩ | ⟨k0, hk0, rfl, ec0⟩
  · skip
    refine xi_iload_n dX10_play_0 rfl ?_
    refine xi_callS [.int x0] [] dX10_play_1 zX10_isTape mlX10_290 rfl rfl rfl (Nat.le_of_ble_eq_true rfl) (Nat.le_of_ble_eq_true rfl) ⟨by decide, by decide⟩ ?_
    refine n_isTpF hc0 ?_
    show WP _ _ 4 _ [.int (xb false)] _ _
    refine xb_if_eq false 26 dX10_play_4 (by decide) rfl (fun _ => ?_) (fun z => absurd z (by decide))
    refine xi_iconst (v := (-1)) dX10_play_26 rfl ?_
    refine xi_iret (v := (-1)) dX10_play_27 rfl ?_
    have e : st_play (G, S0, now, late, risk, A, L, sq, nl, rf, hr, lg, w, tp) x0 x1 (nI k2) (nI k3) = (-1, (G, S0, now, late, risk, A, L, sq, nl, rf, hr, lg, w, tp)) := by simp only [st_play, ec3, ec2, ec0]
    rw [e] at h
    exact h M hC
  have z0 := wtq k0
  rcases (show ((tp k0).1 = 0) ∨ (¬ (tp k0).1 = 0 ∧ ¬ (tp k0).1 = 4) ∨ ((tp k0).1 = 4) by omega) with hs3 | hs3 | hs3
  · skip
    rcases xix_cases x1 (n := (tp k0).2.1) (by omega) with ⟨ec1, hc1⟩ | ⟨k1, hk1, rfl, ec1⟩
    · skip
      refine xi_iload_n dX10_play_0 rfl ?_
      refine xi_callS [.int (nI k0)] [] dX10_play_1 zX10_isTape mlX10_290 rfl rfl rfl (Nat.le_of_ble_eq_true rfl) (Nat.le_of_ble_eq_true rfl) ⟨by decide, by decide⟩ ?_
      refine n_isTpT (k := k0) (by omega) ?_
      show WP _ _ 4 _ [.int (xb true)] _ _
      refine xb_if_eq true 26 dX10_play_4 (by decide) rfl (fun z => absurd z (by decide)) (fun _ => ?_)
      refine xi_aload_n dX10_play_7 rfl ?_
      refine xi_iload dX10_play_8 rfl ?_
      refine xi_callV [.int (nI k3)] [] dX10_play_10 zX10_isPlayer mlX10_272 mm0 rfl rfl rfl rfl rfl (Nat.le_of_ble_eq_true rfl) (Nat.le_of_ble_eq_true rfl) ⟨by decide, by decide⟩ ?_
      refine n_isPT hW hG (k := k3) (by omega) ?_
      show WP _ _ 13 _ [.int (xb true)] _ _
      refine xb_if_eq true 26 dX10_play_13 (by decide) rfl (fun z => absurd z (by decide)) (fun _ => ?_)
      refine xi_iload_n dX10_play_16 rfl ?_
      refine xi_iconst (v := 0) dX10_play_17 rfl ?_
      refine xi_bipush (v := 80) dX10_play_18 (by decide) ?_
      refine xi_callS [.int (nI k2), .int 0, .int 80] [] dX10_play_20 zX10_in mlX10_137 rfl rfl rfl (Nat.le_of_ble_eq_true rfl) (Nat.le_of_ble_eq_true rfl) ⟨by decide, by decide⟩ ?_
      refine n_inT (k := k2) (l := 0) (r := 80) (by omega) (by omega) (by omega) ?_
      show WP _ _ 23 _ [.int (xb true)] _ _
      refine xb_if_ne true 28 dX10_play_23 (by decide) rfl (fun _ => ?_) (fun z => absurd z (by decide))
      refine xi_aload_n dX10_play_28 rfl ?_
      refine xi_getR dX10_play_29 fgX10_80 mm0 rfl ?_
      refine xi_iload_n dX10_play_32 rfl ?_
      refine xe_iald (v := nI ((tp k0).1)) k0 dX10_play_33 mm18 (by decide) rfl (by omega) (hNT k0 (by omega)).1 ?_
      refine xn_if_ne ((tp k0).1) 44 dX10_play_34 (by decide) rfl (by omega) (fun z => absurd z (by omega)) (fun h34 => ?_)
      refine xi_aload_n dX10_play_37 rfl ?_
      refine xi_bipush (v := (-11)) dX10_play_38 (by decide) ?_
      refine xi_callV [.int (-11)] [] dX10_play_40 zX10_host mlX10_293 mm0 rfl rfl rfl rfl rfl (Nat.le_of_ble_eq_true rfl) (Nat.le_of_ble_eq_true rfl) ⟨by decide, by decide⟩ ?_
      refine o_host (x := (-11)) hhr ?_
      show WP _ _ 43 _ [.int (-11)] _ _
      refine xi_iret (v := (-11)) dX10_play_43 rfl ?_
      simp only [st_play, ec3, ec2, ec0] at h
      rw [if_pos hs3] at h
      exact h _ (RepM_ref hC)
    refine xi_iload_n dX10_play_0 rfl ?_
    refine xi_callS [.int (nI k0)] [] dX10_play_1 zX10_isTape mlX10_290 rfl rfl rfl (Nat.le_of_ble_eq_true rfl) (Nat.le_of_ble_eq_true rfl) ⟨by decide, by decide⟩ ?_
    refine n_isTpT (k := k0) (by omega) ?_
    show WP _ _ 4 _ [.int (xb true)] _ _
    refine xb_if_eq true 26 dX10_play_4 (by decide) rfl (fun z => absurd z (by decide)) (fun _ => ?_)
    refine xi_aload_n dX10_play_7 rfl ?_
    refine xi_iload dX10_play_8 rfl ?_
    refine xi_callV [.int (nI k3)] [] dX10_play_10 zX10_isPlayer mlX10_272 mm0 rfl rfl rfl rfl rfl (Nat.le_of_ble_eq_true rfl) (Nat.le_of_ble_eq_true rfl) ⟨by decide, by decide⟩ ?_
    refine n_isPT hW hG (k := k3) (by omega) ?_
    show WP _ _ 13 _ [.int (xb true)] _ _
    refine xb_if_eq true 26 dX10_play_13 (by decide) rfl (fun z => absurd z (by decide)) (fun _ => ?_)
    refine xi_iload_n dX10_play_16 rfl ?_
    refine xi_iconst (v := 0) dX10_play_17 rfl ?_
    refine xi_bipush (v := 80) dX10_play_18 (by decide) ?_
    refine xi_callS [.int (nI k2), .int 0, .int 80] [] dX10_play_20 zX10_in mlX10_137 rfl rfl rfl (Nat.le_of_ble_eq_true rfl) (Nat.le_of_ble_eq_true rfl) ⟨by decide, by decide⟩ ?_
    refine n_inT (k := k2) (l := 0) (r := 80) (by omega) (by omega) (by omega) ?_
    show WP _ _ 23 _ [.int (xb true)] _ _
    refine xb_if_ne true 28 dX10_play_23 (by decide) rfl (fun _ => ?_) (fun z => absurd z (by decide))
    refine xi_aload_n dX10_play_28 rfl ?_
    refine xi_getR dX10_play_29 fgX10_80 mm0 rfl ?_
    refine xi_iload_n dX10_play_32 rfl ?_
    refine xe_iald (v := nI ((tp k0).1)) k0 dX10_play_33 mm18 (by decide) rfl (by omega) (hNT k0 (by omega)).1 ?_
    refine xn_if_ne ((tp k0).1) 44 dX10_play_34 (by decide) rfl (by omega) (fun z => absurd z (by omega)) (fun h34 => ?_)
    refine xi_aload_n dX10_play_37 rfl ?_
    refine xi_bipush (v := (-11)) dX10_play_38 (by decide) ?_
    refine xi_callV [.int (-11)] [] dX10_play_40 zX10_host mlX10_293 mm0 rfl rfl rfl rfl rfl (Nat.le_of_ble_eq_true rfl) (Nat.le_of_ble_eq_true rfl) ⟨by decide, by decide⟩ ?_
    refine o_host (x := (-11)) hhr ?_
    show WP _ _ 43 _ [.int (-11)] _ _
    refine xi_iret (v := (-11)) dX10_play_43 rfl ?_
    simp only [st_play, ec3, ec2, ec0] at h
    rw [if_pos hs3] at h
    exact h _ (RepM_ref hC)
  · skip
    rcases xix_cases x1 (n := (tp k0).2.1) (by omega) with ⟨ec1, hc1⟩ | ⟨k1, hk1, rfl, ec1⟩
    · skip
      refine xi_iload_n dX10_play_0 rfl ?_
      refine xi_callS [.int (nI k0)] [] dX10_play_1 zX10_isTape mlX10_290 rfl rfl rfl (Nat.le_of_ble_eq_true rfl) (Nat.le_of_ble_eq_true rfl) ⟨by decide, by decide⟩ ?_
      refine n_isTpT (k := k0) (by omega) ?_
      show WP _ _ 4 _ [.int (xb true)] _ _
      refine xb_if_eq true 26 dX10_play_4 (by decide) rfl (fun z => absurd z (by decide)) (fun _ => ?_)
      refine xi_aload_n dX10_play_7 rfl ?_
      refine xi_iload dX10_play_8 rfl ?_
      refine xi_callV [.int (nI k3)] [] dX10_play_10 zX10_isPlayer mlX10_272 mm0 rfl rfl rfl rfl rfl (Nat.le_of_ble_eq_true rfl) (Nat.le_of_ble_eq_true rfl) ⟨by decide, by decide⟩ ?_
      refine n_isPT hW hG (k := k3) (by omega) ?_
      show WP _ _ 13 _ [.int (xb true)] _ _
      refine xb_if_eq true 26 dX10_play_13 (by decide) rfl (fun z => absurd z (by decide)) (fun _ => ?_)
      refine xi_iload_n dX10_play_16 rfl ?_
      refine xi_iconst (v := 0) dX10_play_17 rfl ?_
      refine xi_bipush (v := 80) dX10_play_18 (by decide) ?_
      refine xi_callS [.int (nI k2), .int 0, .int 80] [] dX10_play_20 zX10_in mlX10_137 rfl rfl rfl (Nat.le_of_ble_eq_true rfl) (Nat.le_of_ble_eq_true rfl) ⟨by decide, by decide⟩ ?_
      refine n_inT (k := k2) (l := 0) (r := 80) (by omega) (by omega) (by omega) ?_
      show WP _ _ 23 _ [.int (xb true)] _ _
      refine xb_if_ne true 28 dX10_play_23 (by decide) rfl (fun _ => ?_) (fun z => absurd z (by decide))
      refine xi_aload_n dX10_play_28 rfl ?_
      refine xi_getR dX10_play_29 fgX10_80 mm0 rfl ?_
      refine xi_iload_n dX10_play_32 rfl ?_
      refine xe_iald (v := nI ((tp k0).1)) k0 dX10_play_33 mm18 (by decide) rfl (by omega) (hNT k0 (by omega)).1 ?_
      refine xn_if_ne ((tp k0).1) 44 dX10_play_34 (by decide) rfl (by omega) (fun h34 => ?_) (fun z => absurd z (by omega))
      refine xi_aload_n dX10_play_44 rfl ?_
      refine xi_getR dX10_play_45 fgX10_80 mm0 rfl ?_
      refine xi_iload_n dX10_play_48 rfl ?_
      refine xe_iald (v := nI ((tp k0).1)) k0 dX10_play_49 mm18 (by decide) rfl (by omega) (hNT k0 (by omega)).1 ?_
      refine xi_iconst (v := 4) dX10_play_50 rfl ?_
      refine xat 51 rfl ?_
      refine xn_icmp_eq ((tp k0).1) 4 61 dX10_play_51 (by decide) rfl rfl (by omega) (by omega) (fun z => absurd z (by omega)) (fun h51 => ?_)
      refine xi_aload_n dX10_play_54 rfl ?_
      refine xi_bipush (v := (-12)) dX10_play_55 (by decide) ?_
      refine xi_callV [.int (-12)] [] dX10_play_57 zX10_host mlX10_293 mm0 rfl rfl rfl rfl rfl (Nat.le_of_ble_eq_true rfl) (Nat.le_of_ble_eq_true rfl) ⟨by decide, by decide⟩ ?_
      refine o_host (x := (-12)) hhr ?_
      show WP _ _ 60 _ [.int (-12)] _ _
      refine xi_iret (v := (-12)) dX10_play_60 rfl ?_
      simp only [st_play, ec3, ec2, ec0] at h
      rw [if_neg hs3.1, if_pos hs3.2] at h
      exact h _ (RepM_ref hC)
    refine xi_iload_n dX10_play_0 rfl ?_
    refine xi_callS [.int (nI k0)] [] dX10_play_1 zX10_isTape mlX10_290 rfl rfl rfl (Nat.le_of_ble_eq_true rfl) (Nat.le_of_ble_eq_true rfl) ⟨by decide, by decide⟩ ?_
    refine n_isTpT (k := k0) (by omega) ?_
    show WP _ _ 4 _ [.int (xb true)] _ _
    refine xb_if_eq true 26 dX10_play_4 (by decide) rfl (fun z => absurd z (by decide)) (fun _ => ?_)
    refine xi_aload_n dX10_play_7 rfl ?_
    refine xi_iload dX10_play_8 rfl ?_
    refine xi_callV [.int (nI k3)] [] dX10_play_10 zX10_isPlayer mlX10_272 mm0 rfl rfl rfl rfl rfl (Nat.le_of_ble_eq_true rfl) (Nat.le_of_ble_eq_true rfl) ⟨by decide, by decide⟩ ?_
    refine n_isPT hW hG (k := k3) (by omega) ?_
    show WP _ _ 13 _ [.int (xb true)] _ _
    refine xb_if_eq true 26 dX10_play_13 (by decide) rfl (fun z => absurd z (by decide)) (fun _ => ?_)
    refine xi_iload_n dX10_play_16 rfl ?_
    refine xi_iconst (v := 0) dX10_play_17 rfl ?_
    refine xi_bipush (v := 80) dX10_play_18 (by decide) ?_
    refine xi_callS [.int (nI k2), .int 0, .int 80] [] dX10_play_20 zX10_in mlX10_137 rfl rfl rfl (Nat.le_of_ble_eq_true rfl) (Nat.le_of_ble_eq_true rfl) ⟨by decide, by decide⟩ ?_
    refine n_inT (k := k2) (l := 0) (r := 80) (by omega) (by omega) (by omega) ?_
    show WP _ _ 23 _ [.int (xb true)] _ _
    refine xb_if_ne true 28 dX10_play_23 (by decide) rfl (fun _ => ?_) (fun z => absurd z (by decide))
    refine xi_aload_n dX10_play_28 rfl ?_
    refine xi_getR dX10_play_29 fgX10_80 mm0 rfl ?_
    refine xi_iload_n dX10_play_32 rfl ?_
    refine xe_iald (v := nI ((tp k0).1)) k0 dX10_play_33 mm18 (by decide) rfl (by omega) (hNT k0 (by omega)).1 ?_
    refine xn_if_ne ((tp k0).1) 44 dX10_play_34 (by decide) rfl (by omega) (fun h34 => ?_) (fun z => absurd z (by omega))
    refine xi_aload_n dX10_play_44 rfl ?_
    refine xi_getR dX10_play_45 fgX10_80 mm0 rfl ?_
    refine xi_iload_n dX10_play_48 rfl ?_
    refine xe_iald (v := nI ((tp k0).1)) k0 dX10_play_49 mm18 (by decide) rfl (by omega) (hNT k0 (by omega)).1 ?_
    refine xi_iconst (v := 4) dX10_play_50 rfl ?_
    refine xat 51 rfl ?_
    refine xn_icmp_eq ((tp k0).1) 4 61 dX10_play_51 (by decide) rfl rfl (by omega) (by omega) (fun z => absurd z (by omega)) (fun h51 => ?_)
    refine xi_aload_n dX10_play_54 rfl ?_
    refine xi_bipush (v := (-12)) dX10_play_55 (by decide) ?_
    refine xi_callV [.int (-12)] [] dX10_play_57 zX10_host mlX10_293 mm0 rfl rfl rfl rfl rfl (Nat.le_of_ble_eq_true rfl) (Nat.le_of_ble_eq_true rfl) ⟨by decide, by decide⟩ ?_
    refine o_host (x := (-12)) hhr ?_
    show WP _ _ 60 _ [.int (-12)] _ _
    refine xi_iret (v := (-12)) dX10_play_60 rfl ?_
    simp only [st_play, ec3, ec2, ec0] at h
    rw [if_neg hs3.1, if_pos hs3.2] at h
    exact h _ (RepM_ref hC)
  · skip
    rcases xix_cases x1 (n := (tp k0).2.1) (by omega) with ⟨ec1, hc1⟩ | ⟨k1, hk1, rfl, ec1⟩
    · skip
      refine xi_iload_n dX10_play_0 rfl ?_
      refine xi_callS [.int (nI k0)] [] dX10_play_1 zX10_isTape mlX10_290 rfl rfl rfl (Nat.le_of_ble_eq_true rfl) (Nat.le_of_ble_eq_true rfl) ⟨by decide, by decide⟩ ?_
      refine n_isTpT (k := k0) (by omega) ?_
      show WP _ _ 4 _ [.int (xb true)] _ _
      refine xb_if_eq true 26 dX10_play_4 (by decide) rfl (fun z => absurd z (by decide)) (fun _ => ?_)
      refine xi_aload_n dX10_play_7 rfl ?_
      refine xi_iload dX10_play_8 rfl ?_
      refine xi_callV [.int (nI k3)] [] dX10_play_10 zX10_isPlayer mlX10_272 mm0 rfl rfl rfl rfl rfl (Nat.le_of_ble_eq_true rfl) (Nat.le_of_ble_eq_true rfl) ⟨by decide, by decide⟩ ?_
      refine n_isPT hW hG (k := k3) (by omega) ?_
      show WP _ _ 13 _ [.int (xb true)] _ _
      refine xb_if_eq true 26 dX10_play_13 (by decide) rfl (fun z => absurd z (by decide)) (fun _ => ?_)
      refine xi_iload_n dX10_play_16 rfl ?_
      refine xi_iconst (v := 0) dX10_play_17 rfl ?_
      refine xi_bipush (v := 80) dX10_play_18 (by decide) ?_
      refine xi_callS [.int (nI k2), .int 0, .int 80] [] dX10_play_20 zX10_in mlX10_137 rfl rfl rfl (Nat.le_of_ble_eq_true rfl) (Nat.le_of_ble_eq_true rfl) ⟨by decide, by decide⟩ ?_
      refine n_inT (k := k2) (l := 0) (r := 80) (by omega) (by omega) (by omega) ?_
      show WP _ _ 23 _ [.int (xb true)] _ _
      refine xb_if_ne true 28 dX10_play_23 (by decide) rfl (fun _ => ?_) (fun z => absurd z (by decide))
      refine xi_aload_n dX10_play_28 rfl ?_
      refine xi_getR dX10_play_29 fgX10_80 mm0 rfl ?_
      refine xi_iload_n dX10_play_32 rfl ?_
      refine xe_iald (v := nI ((tp k0).1)) k0 dX10_play_33 mm18 (by decide) rfl (by omega) (hNT k0 (by omega)).1 ?_
      refine xn_if_ne ((tp k0).1) 44 dX10_play_34 (by decide) rfl (by omega) (fun h34 => ?_) (fun z => absurd z (by omega))
      refine xi_aload_n dX10_play_44 rfl ?_
      refine xi_getR dX10_play_45 fgX10_80 mm0 rfl ?_
      refine xi_iload_n dX10_play_48 rfl ?_
      refine xe_iald (v := nI ((tp k0).1)) k0 dX10_play_49 mm18 (by decide) rfl (by omega) (hNT k0 (by omega)).1 ?_
      refine xi_iconst (v := 4) dX10_play_50 rfl ?_
      refine xat 51 rfl ?_
      refine xn_icmp_eq ((tp k0).1) 4 61 dX10_play_51 (by decide) rfl rfl (by omega) (by omega) (fun h51 => ?_) (fun z => absurd z (by omega))
      refine xi_iconst (v := 0) dX10_play_61 rfl ?_
      refine xi_istore (lv' := [some (.ref 0), some (.int (nI k0)), some (.int x1), some (.int (nI k2)), some (.int (nI k3)), some (.int 0)]) dX10_play_62 (by decide) rfl ?_
      refine xi_iload dX10_play_64 rfl ?_
      refine xi_iload_n dX10_play_66 rfl ?_
      refine xn_icmp_ge 0 k2 126 dX10_play_67 (by decide) rfl rfl (by omega) (by omega) (fun h67 => ?_) (fun h67 => ?_)
      · have n0 : k2 = 0 := by omega
        refine xi_iload_n dX10_play_126 rfl ?_
        refine xi_iret (v := nI k2) dX10_play_127 rfl ?_
        simp only [st_play, ec3, ec2, ec0] at h
        rw [if_neg (by omega), if_neg (by omega)] at h
        simp only [ec1] at h
        rw [if_pos n0] at h
        subst n0
        exact h M hC
      · have n0 : ¬ k2 = 0 := by omega
        refine xi_iload_n dX10_play_70 rfl ?_
        refine xi_if_lt 87 dX10_play_71 (by decide) (fun h71 => ?_) (fun h71 => ?_)
        · skip
          refine xi_aload_n dX10_play_87 rfl ?_
          refine xi_bipush (v := (-13)) dX10_play_88 (by decide) ?_
          refine xi_callV [.int (-13)] [] dX10_play_90 zX10_host mlX10_293 mm0 rfl rfl rfl rfl rfl (Nat.le_of_ble_eq_true rfl) (Nat.le_of_ble_eq_true rfl) ⟨by decide, by decide⟩ ?_
          refine o_host (x := (-13)) hhr ?_
          show WP _ _ 93 _ [.int (-13)] _ _
          refine xi_iret (v := (-13)) dX10_play_93 rfl ?_
          simp only [st_play, ec3, ec2, ec0] at h
          rw [if_neg (by omega), if_neg (by omega)] at h
          simp only [ec1] at h
          rw [if_neg n0] at h
          exact h _ (RepM_ref hC)
        · skip
          refine xi_iload_n dX10_play_74 rfl ?_
          refine xi_aload_n dX10_play_75 rfl ?_
          refine xi_getR dX10_play_76 fgX10_83 mm0 rfl ?_
          refine xi_iload_n dX10_play_79 rfl ?_
          refine xe_iald (v := nI ((tp k0).2.1)) k0 dX10_play_80 mm19 (by decide) rfl (by omega) ((hNT k0 hk0).2.1 (by omega) (by omega)).1 ?_
          refine xi_iload dX10_play_81 rfl ?_
          refine xe_isub dX10_play_83 (v := nI ((tp k0).2.1)) (pk_sub (b := 0) (by omega)) ?_
          refine xi_icmp_lt 94 dX10_play_84 (by decide) (fun z => hc1.elim (fun q => absurd q h71) (fun q => absurd z (Int32.not_lt.mpr q))) (fun h84 => ?_)
          refine xi_aload_n dX10_play_87 rfl ?_
          refine xi_bipush (v := (-13)) dX10_play_88 (by decide) ?_
          refine xi_callV [.int (-13)] [] dX10_play_90 zX10_host mlX10_293 mm0 rfl rfl rfl rfl rfl (Nat.le_of_ble_eq_true rfl) (Nat.le_of_ble_eq_true rfl) ⟨by decide, by decide⟩ ?_
          refine o_host (x := (-13)) hhr ?_
          show WP _ _ 93 _ [.int (-13)] _ _
          refine xi_iret (v := (-13)) dX10_play_93 rfl ?_
          simp only [st_play, ec3, ec2, ec0] at h
          rw [if_neg (by omega), if_neg (by omega)] at h
          simp only [ec1] at h
          rw [if_neg n0] at h
          exact h _ (RepM_ref hC)
    refine xi_iload_n dX10_play_0 rfl ?_
    refine xi_callS [.int (nI k0)] [] dX10_play_1 zX10_isTape mlX10_290 rfl rfl rfl (Nat.le_of_ble_eq_true rfl) (Nat.le_of_ble_eq_true rfl) ⟨by decide, by decide⟩ ?_
    refine n_isTpT (k := k0) (by omega) ?_
    show WP _ _ 4 _ [.int (xb true)] _ _
    refine xb_if_eq true 26 dX10_play_4 (by decide) rfl (fun z => absurd z (by decide)) (fun _ => ?_)
    refine xi_aload_n dX10_play_7 rfl ?_
    refine xi_iload dX10_play_8 rfl ?_
    refine xi_callV [.int (nI k3)] [] dX10_play_10 zX10_isPlayer mlX10_272 mm0 rfl rfl rfl rfl rfl (Nat.le_of_ble_eq_true rfl) (Nat.le_of_ble_eq_true rfl) ⟨by decide, by decide⟩ ?_
    refine n_isPT hW hG (k := k3) (by omega) ?_
    show WP _ _ 13 _ [.int (xb true)] _ _
    refine xb_if_eq true 26 dX10_play_13 (by decide) rfl (fun z => absurd z (by decide)) (fun _ => ?_)
    refine xi_iload_n dX10_play_16 rfl ?_
    refine xi_iconst (v := 0) dX10_play_17 rfl ?_
    refine xi_bipush (v := 80) dX10_play_18 (by decide) ?_
    refine xi_callS [.int (nI k2), .int 0, .int 80] [] dX10_play_20 zX10_in mlX10_137 rfl rfl rfl (Nat.le_of_ble_eq_true rfl) (Nat.le_of_ble_eq_true rfl) ⟨by decide, by decide⟩ ?_
    refine n_inT (k := k2) (l := 0) (r := 80) (by omega) (by omega) (by omega) ?_
    show WP _ _ 23 _ [.int (xb true)] _ _
    refine xb_if_ne true 28 dX10_play_23 (by decide) rfl (fun _ => ?_) (fun z => absurd z (by decide))
    refine xi_aload_n dX10_play_28 rfl ?_
    refine xi_getR dX10_play_29 fgX10_80 mm0 rfl ?_
    refine xi_iload_n dX10_play_32 rfl ?_
    refine xe_iald (v := nI ((tp k0).1)) k0 dX10_play_33 mm18 (by decide) rfl (by omega) (hNT k0 (by omega)).1 ?_
    refine xn_if_ne ((tp k0).1) 44 dX10_play_34 (by decide) rfl (by omega) (fun h34 => ?_) (fun z => absurd z (by omega))
    refine xi_aload_n dX10_play_44 rfl ?_
    refine xi_getR dX10_play_45 fgX10_80 mm0 rfl ?_
    refine xi_iload_n dX10_play_48 rfl ?_
    refine xe_iald (v := nI ((tp k0).1)) k0 dX10_play_49 mm18 (by decide) rfl (by omega) (hNT k0 (by omega)).1 ?_
    refine xi_iconst (v := 4) dX10_play_50 rfl ?_
    refine xat 51 rfl ?_
    refine xn_icmp_eq ((tp k0).1) 4 61 dX10_play_51 (by decide) rfl rfl (by omega) (by omega) (fun h51 => ?_) (fun z => absurd z (by omega))
    refine xi_iconst (v := 0) dX10_play_61 rfl ?_
    refine xi_istore (lv' := [some (.ref 0), some (.int (nI k0)), some (.int (nI k1)), some (.int (nI k2)), some (.int (nI k3)), some (.int 0)]) dX10_play_62 (by decide) rfl ?_
    simp only [st_play, ec3, ec2, ec0] at h
    rw [if_neg (by omega), if_neg (by omega)] at h
    simp only [ec1] at h
    exact pl_m (m := (tp k0).2.1) hk0 hl2 hk1 (by omega) k2 0 _ M (by omega) (by omega) hX hk3 rfl rfl (by show (tp k0).1 = 4; omega) hC h

