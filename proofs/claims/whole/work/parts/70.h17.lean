def mtake (X : xX) (p c t : Nat) : Int32 × xX := match X with
  | (G, S0, now, late, risk, A, L, sq, nl, rf, hr, lg, w, tp) => if now ≤ t then (0, (G, S0, now, late, risk, va_up A (4 * t + p) c, va_up L (4 * t + p) false, va_up sq p ((sq p + 1) % 256), nl + 1, rf, hr, lg, w, tp)) else (nI (now - t), (G, S0, now, late, risk, va_up A (4 * t + p) c, va_up L (4 * t + p) true, va_up sq p ((sq p + 1) % 256), nl + 1, rf, hr, mtb (Hx G A S0 now) (Hx G (va_up A (4 * t + p) c) S0 now) now (4 * t) (4 * (now - t)) (lg.1 + 1, lg.2.1 + (now - t), max lg.2.2.1 (now - t), lg.2.2.2.1, lg.2.2.2.2), w, tp))
def mrec (X : xX) (p : Nat) (b : Int64) : Int32 × xX := match X with
  | (G, S0, now, late, risk, A, L, sq, nl, rf, hr, lg, w, tp) => if mrefuse G S0 now late A sq p (ub b) = 0 then mtake (G, S0, now, late, risk, A, L, sq, nl, rf, hr, lg, w, tp) p (ub b % 1024) (ub b / 1024 % 65536) else (mrefuse G S0 now late A sq p (ub b), (G, S0, now, late, risk, A, L, sq, nl, rf + 1, hr, lg, w, tp))
def st_feed (X : xX) (x : Int32) (b : Int64) : Int32 × xX := match X with
  | (G, S0, now, late, risk, A, L, sq, nl, rf, hr, lg, w, tp) => match xix x (gP G) with
    | none => (-1, (G, S0, now, late, risk, A, L, sq, nl, rf + 1, hr, lg, w, tp))
    | some p => mrec (G, S0, now, late, risk, A, L, sq, nl, rf, hr, lg, w, tp) p b
theorem mref_sign {G : xG} {S0 : xS} {now late : Nat} {A sq : Nat → Nat} {p U : Nat} : mrefuse G S0 now late A sq p U = 0 ∨ mrefuse G S0 now late A sq p U < 0 := by
  unfold mrefuse
  repeat' split
  all_goals first | exact Or.inl rfl | exact Or.inr (by decide)
theorem mref_0 {G : xG} {S0 : xS} {now late : Nat} {A sq : Nat → Nat} {p U : Nat} (h : mrefuse G S0 now late A sq p U = 0) : now ≤ U / 1024 % 65536 + late ∧ U / 1024 % 65536 ≤ now + 2 ∧ U / 1024 % 65536 < 500 ∧ A (4 * (U / 1024 % 65536) + p) = 4096 := by
  unfold mrefuse at h
  split at h
  · exact absurd h (by decide)
  split at h
  · exact absurd h (by decide)
  split at h
  · exact absurd h (by decide)
  split at h
  · exact absurd h (by decide)
  split at h
  · exact absurd h (by decide)
  split at h
  · exact absurd h (by decide)
  rename_i h4 h5 h6
  exact ⟨by omega, by omega, by omega, Decidable.not_not.mp h6⟩
theorem Zf_up {G : xG} {A : Nat → Nat} {S : xS} {s t p c : Nat} (hW : wG G) (h : s ≤ t) : Zf G (va_up A (4 * t + p) c) S s = Zf G A S s := Zf_A hW s (fun i hi => up_n (by omega))
theorem Hx_up {G : xG} {A : Nat → Nat} {S : xS} {now t p c : Nat} (hW : wG G) (h : now ≤ t) : Hx G (va_up A (4 * t + p) c) S now = Hx G A S now := by
  funext i
  unfold Hx
  split
  · rename_i q
    exact Hf_A hW (t := now) (fun j hj => up_n (by omega)) q
  · rfl
theorem CLg.act {A H : Nat → Nat} {L : Nat → Bool} {M : xM} {j c : Nat} {b : Bool} (h : CLg A H L M) (hc : c ≤ 4096) : CLg (va_up A j c) H (va_up L j b) (xa (xa M 14 (upd (M.2.1 14) j (nI c))) 16 (upd ((xa M 14 (upd (M.2.1 14) j (nI c))).2.1 16) j (xb b))) := by
  refine ⟨fun i hi => ?_, fun i hi => ?_, fun i hi => ?_, fun i => ?_, h.2.2.2.2⟩
  · rw [xa_n (by decide), xa_s]
    by_cases e : i = j
    · rw [e, upd_s, up_s]
    · rw [upd_n e, up_n e]; exact h.1 i hi
  · rw [xa_n (by decide), xa_n (by decide)]; exact h.2.1 i hi
  · rw [xa_s, xa_n (by decide)]
    by_cases e : i = j
    · rw [e, upd_s, up_s]
    · rw [upd_n e, up_n e]; exact h.2.2.1 i hi
  · by_cases e : i = j
    · rw [e, up_s]; exact hc
    · rw [up_n e]; exact h.2.2.2.1 i
theorem KS.up {sq : Nat → Nat} {M : xM} {p v : Nat} (h : KS sq M) : KS (va_up sq p v) (xa M 22 (upd (M.2.1 22) p (nI v))) := by
  intro q hq
  rw [xa_s]
  by_cases e : q = p
  · rw [e, upd_s, up_s]
  · rw [upd_n e, up_n e]; exact h q hq
theorem RepC_rf {G : xG} {S0 : xS} {now late risk : Nat} {A : Nat → Nat} {L : Nat → Bool} {sq : Nat → Nat} {nl : Nat} {rf hr : Int32} {lg : xE2} {w : xw} {tp : Nat → xT} {M : xM} (hC : RepC (G, S0, now, late, risk, A, L, sq, nl, rf, hr, lg, w, tp) M) : RepC (G, S0, now, late, risk, A, L, sq, nl, rf + 1, hr, lg, w, tp) (xf M 0 13 (rf + 1)) := by
  obtain ⟨a, b, c, d, e, f, g, i, j⟩ := hC
  exact RepC_mk (a.sm (sC2.xf (by omega))) (b.sm (sC2.xf (by omega))) (c.sm (sC2.xf (by omega))) (d.sm (sC2.xf (by omega))) (e.sm (sC2.xf (by omega))) (f.sm (sC2.xf (by omega))) (g.sm (sC2.xf (by omega))) (i.sm (sC2.xf (by omega))) ⟨j.1, j.2.1, j.2.2.1, j.2.2.2.1, rfl, j.2.2.2.2.2⟩
theorem fair_up {H K : Nat → Nat} {L : Nat → Bool} {n t p : Nat} {b : Bool} {w : xw} {M : xM} (h : KW w (fun p b => mfair H L p b n) M) (hn : n ≤ t) (hH : ∀ i, i < 4 * n → H i = K i) : KW w (fun q b2 => mfair K (va_up L (4 * t + p) b) q b2 n) M := by
  intro q hq
  have e : ∀ b2, mfair K (va_up L (4 * t + p) b) q b2 n = mfair H L q b2 n := fun b2 => mfair_A hq n (fun i hi => ⟨(hH i hi).symm, up_n (by omega)⟩)
  have h2 := h q hq
  refine ⟨h2.1, h2.2.1, ?_, ?_, h2.2.2.2.2⟩
  · show M.1 (23 + 5 * q) 2 = nI (mfair K (va_up L (4 * t + p) b) q false n)
    rw [e]; exact h2.2.2.1
  · show M.1 (23 + 5 * q) 3 = nI (mfair K (va_up L (4 * t + p) b) q true n)
    rw [e]; exact h2.2.2.2.1
/-- the class's cells behind an act that is taken, nothing worked yet -/
theorem RepC_act {G : xG} {S0 : xS} {now late risk : Nat} {A : Nat → Nat} {L : Nat → Bool} {sq : Nat → Nat} {nl : Nat} {rf hr : Int32} {lg : xE2} {w : xw} {tp : Nat → xT} {M : xM} {p c t : Nat} {b : Bool} {M3 : xM} (hC : RepC (G, S0, now, late, risk, A, L, sq, nl, rf, hr, lg, w, tp) M) (hc : c ≤ 4096) (e3 : M3 = xf (xa (xa (xa M 14 (upd (M.2.1 14) (4 * t + p) (nI c))) 16 (upd ((xa M 14 (upd (M.2.1 14) (4 * t + p) (nI c))).2.1 16) (4 * t + p) (xb b))) 22 (upd ((xa (xa M 14 (upd (M.2.1 14) (4 * t + p) (nI c))) 16 (upd ((xa M 14 (upd (M.2.1 14) (4 * t + p) (nI c))).2.1 16) (4 * t + p) (xb b))).2.1 22) p (nI ((sq p + 1) % 256)))) 0 12 (nI (nl + 1))) : CG G M3 ∧ KF G S0 M3 ∧ KR G (Zf G A S0) now M3 ∧ CLg (va_up A (4 * t + p) c) (Hx G A S0 now) (va_up L (4 * t + p) b) M3 ∧ KE lg M3 ∧ KS (va_up sq p ((sq p + 1) % 256)) M3 ∧ KW w (fun p b => mfair (Hx G A S0 now) L p b (now - late)) M3 ∧ KT tp M3 ∧ KM now late risk (nl + 1) rf hr M3 := by
  obtain ⟨a, b2, c2, d, e, f, g, i, j⟩ := hC
  have fr : ∀ lo hi, (16 < lo ∨ hi < 14) → (22 < lo ∨ hi < 22) → 0 < lo → sC2 lo hi M M3 := fun lo hi q1 q2 q3 => by
    rw [e3]
    exact (((sC2.xa (by omega)).tr (sC2.xa (by omega))).tr (sC2.xa (by omega))).tr (sC2.xf (by omega))
  refine ⟨a.sm (fr _ _ (by omega) (by omega) (by omega)), b2.sm (fr _ _ (by omega) (by omega) (by omega)), c2.sm (fr _ _ (by omega) (by omega) (by omega)), ?_, e.sm (fr _ _ (by omega) (by omega) (by omega)), ?_, g.sm (fr _ _ (by omega) (by omega) (by omega)), i.sm (fr _ _ (by omega) (by omega) (by omega)), by rw [e3]; exact j.1, by rw [e3]; exact j.2.1, by rw [e3]; exact j.2.2.1, by rw [e3]; rfl, by rw [e3]; exact j.2.2.2.2.1, by rw [e3]; exact j.2.2.2.2.2⟩
  · rw [e3]; exact (CLg.act (b := b) d hc).sm ((sC2.xa (by omega)).tr (sC2.xf (by omega)))
  · rw [e3]; exact (KS.up (f.sm ((sC2.xa (by omega)).tr (sC2.xa (by omega))))).sm (sC2.xf (by omega))
theorem KE.two {lg : xE2} {M M2 : xM} (h : KE lg M) (h1 : M2.1 17 = M.1 17) (h2 : M2.2.1 18 = M.2.1 18) : KE lg M2 := by
  unfold KE
  rw [h1, h2]
  exact h
set_option maxHeartbeats 4000000 in
set_option maxRecDepth 100000 in
theorem c_recF {G : xG} {S0 : xS} {now late risk : Nat} {A : Nat → Nat} {L : Nat → Bool} {sq : Nat → Nat} {nl : Nat} {rf hr : Int32} {lg : xE2} {w : xw} {tp : Nat → xT} {M : xM} {Q : Option Value → xM → Prop} (hX : wX (G, S0, now, late, risk, A, L, sq, nl, rf, hr, lg, w, tp)) (hC : RepC (G, S0, now, late, risk, A, L, sq, nl, rf, hr, lg, w, tp) M) {p : Nat} {b : Int64} (hp : p < gP G) (e : mrefuse G S0 now late A sq p (ub b) < 0) (h : ∀ M2, RepC (mrec (G, S0, now, late, risk, A, L, sq, nl, rf, hr, lg, w, tp) p b).2 M2 → Q (some (.int (mrec (G, S0, now, late, risk, A, L, sq, nl, rf, hr, lg, w, tp) p b).1)) M2) : WP shC mX9_receive 0 [some (.ref 0), some (.int (nI p)), some (.long b), none, none, none] [] M Q := by
  obtain ⟨hW, hw0, wn, wl, wr, wA_, wsq, wnl, wmo, wtk, wwt, wtp, wO0, wB0⟩ := id hX
  obtain ⟨b1, b2, b3, b4, b5, b6, b7, b8, b9, wmap, wlink, wk0, wk1, b10, b11, wword⟩ := id hW
  have nb : nl ≤ 2000 := by rw [wnl]; exact mcnt_le 2000
  obtain ⟨hG, hKF, hKR, hL, hKE, hKS, hKW, hKT, hKM⟩ := id hC
  obtain ⟨hno, hla, hri, hnl, hrf, hhr⟩ := id hKM
  have hSn : CS G (Zf G A S0 now) M (61 + 10 * (now % 16)) := hKR.1 now (by omega) (by omega)
  have hwn : wS G (Zf G A S0 now) := wS_Zf hW hw0 now
  refine xi_aload_n dX9_receive_0 rfl ?_
  refine xi_iload_n dX9_receive_1 rfl ?_
  refine xi_lload_n dX9_receive_2 rfl ?_
  refine xi_callV [.int (nI p), .long b] [] dX9_receive_3 zX9_refusalOf mlX9_175 cc0 rfl rfl rfl rfl rfl (Nat.le_of_ble_eq_true rfl) (Nat.le_of_ble_eq_true rfl) ⟨by decide, by decide⟩ ?_
  refine c_refusal hX hC (p := p) (b := b) (by omega) ?_
  show WP _ _ 6 _ [.int (mrefuse G S0 now late A sq p (ub b))] _ _
  refine xi_istore (lv' := [some (.ref 0), some (.int (nI p)), some (.long b), none, some (.int (mrefuse G S0 now late A sq p (ub b))), none]) dX9_receive_6 (by decide) rfl ?_
  refine xi_iload dX9_receive_8 rfl ?_
  refine xi_if_ge 26 dX9_receive_10 (by decide) (fun h10 => ?_) (fun h10 => ?_)
  · exact absurd e (Int32.not_lt.mpr h10)
  · skip
    refine xi_aload_n dX9_receive_13 rfl ?_
    refine xi_dup dX9_receive_14 rfl ?_
    refine xe_getI (v := rf) dX9_receive_15 fgX9_110 cc0 rfl hrf ?_
    refine xi_iconst (v := 1) dX9_receive_18 rfl ?_
    refine xi_iadd dX9_receive_19 ?_
    refine xi_put dX9_receive_20 fpX9_110 cc0 rfl ?_
    refine xi_iload dX9_receive_23 rfl ?_
    refine xi_iret (v := mrefuse G S0 now late A sq p (ub b)) dX9_receive_25 rfl ?_
    have e9 : mrec (G, S0, now, late, risk, A, L, sq, nl, rf, hr, lg, w, tp) p b = (mrefuse G S0 now late A sq p (ub b), (G, S0, now, late, risk, A, L, sq, nl, rf + 1, hr, lg, w, tp)) := by show (if mrefuse G S0 now late A sq p (ub b) = 0 then _ else _) = _; rw [if_neg (fun z => by rw [z] at e; exact absurd e (by decide))]
    rw [e9] at h
    exact h _ (RepC_rf hC)

set_option maxHeartbeats 4000000 in
set_option maxRecDepth 100000 in
theorem c_recT {G : xG} {S0 : xS} {now late risk : Nat} {A : Nat → Nat} {L : Nat → Bool} {sq : Nat → Nat} {nl : Nat} {rf hr : Int32} {lg : xE2} {w : xw} {tp : Nat → xT} {M : xM} {Q : Option Value → xM → Prop} (hX : wX (G, S0, now, late, risk, A, L, sq, nl, rf, hr, lg, w, tp)) (hC : RepC (G, S0, now, late, risk, A, L, sq, nl, rf, hr, lg, w, tp) M) {p : Nat} {b : Int64} (hp : p < gP G) (e : mrefuse G S0 now late A sq p (ub b) = 0) (h : ∀ M2, RepC (mrec (G, S0, now, late, risk, A, L, sq, nl, rf, hr, lg, w, tp) p b).2 M2 → Q (some (.int (mrec (G, S0, now, late, risk, A, L, sq, nl, rf, hr, lg, w, tp) p b).1)) M2) : WP shC mX9_receive 0 [some (.ref 0), some (.int (nI p)), some (.long b), none, none, none] [] M Q := by
  obtain ⟨hW, hw0, wn, wl, wr, wA_, wsq, wnl, wmo, wtk, wwt, wtp, wO0, wB0⟩ := id hX
  obtain ⟨b1, b2, b3, b4, b5, b6, b7, b8, b9, wmap, wlink, wk0, wk1, b10, b11, wword⟩ := id hW
  have nb : nl ≤ 2000 := by rw [wnl]; exact mcnt_le 2000
  obtain ⟨hG, hKF, hKR, hL, hKE, hKS, hKW, hKT, hKM⟩ := id hC
  obtain ⟨hno, hla, hri, hnl, hrf, hhr⟩ := id hKM
  have hSn : CS G (Zf G A S0 now) M (61 + 10 * (now % 16)) := hKR.1 now (by omega) (by omega)
  have hwn : wS G (Zf G A S0 now) := wS_Zf hW hw0 now
  obtain ⟨t, et⟩ : ∃ t, t = ub b / 1024 % 65536 := ⟨_, rfl⟩
  obtain ⟨c, ec⟩ : ∃ c, c = ub b % 1024 := ⟨_, rfl⟩
  have cb : c < 1024 := by rw [ec]; exact Nat.mod_lt _ (by decide)
  have wsp := wsq p
  have ej : t * 4 + p = 4 * t + p := by omega
  obtain ⟨m1, m2, m3, m4⟩ := mref_0 e
  rw [← et] at m1 m2 m3 m4
  refine xi_aload_n dX9_receive_0 rfl ?_
  refine xi_iload_n dX9_receive_1 rfl ?_
  refine xi_lload_n dX9_receive_2 rfl ?_
  refine xi_callV [.int (nI p), .long b] [] dX9_receive_3 zX9_refusalOf mlX9_175 cc0 rfl rfl rfl rfl rfl (Nat.le_of_ble_eq_true rfl) (Nat.le_of_ble_eq_true rfl) ⟨by decide, by decide⟩ ?_
  refine c_refusal hX hC (p := p) (b := b) (by omega) ?_
  rw [e]
  show WP _ _ 6 _ [.int (nI 0)] _ _
  refine xi_istore (lv' := [some (.ref 0), some (.int (nI p)), some (.long b), none, some (.int (nI 0)), none]) dX9_receive_6 (by decide) rfl ?_
  refine xi_iload dX9_receive_8 rfl ?_
  refine xn_if_ge 0 26 dX9_receive_10 (by decide) rfl (by omega) ?_
  refine xi_lload_n dX9_receive_26 rfl ?_
  refine xi_callS [.long b] [] dX9_receive_27 zX0_tickOf mlX9_178 rfl rfl rfl (Nat.le_of_ble_eq_true rfl) (Nat.le_of_ble_eq_true rfl) ⟨by decide, by decide⟩ ?_
  refine k_tickOf ?_
  rw [← et]
  show WP _ _ 30 _ [.int (nI t)] _ _
  refine xi_istore (lv' := [some (.ref 0), some (.int (nI p)), some (.long b), none, some (.int (nI 0)), some (.int (nI t))]) dX9_receive_30 (by decide) rfl ?_
  refine xi_aload_n dX9_receive_32 rfl ?_
  refine xi_getR dX9_receive_33 fgX9_40 cc0 rfl ?_
  refine xi_iload dX9_receive_36 rfl ?_
  refine xi_iload_n dX9_receive_38 rfl ?_
  refine xi_lload_n dX9_receive_39 rfl ?_
  refine xi_callS [.long b] [.int (nI p), .int (nI t), .ref 13] dX9_receive_40 zX0_codeOf mlX9_182 rfl rfl rfl (Nat.le_of_ble_eq_true rfl) (Nat.le_of_ble_eq_true rfl) ⟨by decide, by decide⟩ ?_
  refine k_codeOf ?_
  rw [← ec]
  show WP _ _ 43 _ [.int (nI c), .int (nI p), .int (nI t), .ref 13] _ _
  refine xi_iload dX9_receive_43 rfl ?_
  refine xi_aload_n dX9_receive_45 rfl ?_
  refine xe_getI (v := nI now) dX9_receive_46 fgX9_98 cc0 rfl hno ?_
  refine xn_icmp_ge t now 56 dX9_receive_49 (by decide) rfl rfl (by omega) (by omega) (fun h49 => ?_) (fun h49 => ?_)
  · skip
    refine xi_iconst (v := 0) dX9_receive_56 rfl ?_
    refine xi_callV [.int (nI t), .int (nI p), .int (nI c), .int 0] [] dX9_receive_57 zX3_noteAct mlX9_185 cc13 rfl rfl rfl rfl rfl (Nat.le_of_ble_eq_true rfl) (Nat.le_of_ble_eq_true rfl) ⟨by decide, by decide⟩ ?_
    refine g_noteAct (t := t) (p := p) (c := c) (b := false) (by omega) (by omega) ?_
    rw [ej]
    show WP _ _ 60 _ [] _ _
    refine xi_aload_n dX9_receive_60 rfl ?_
    refine xi_getR dX9_receive_61 fgX9_65 cc0 rfl ?_
    refine xi_iload_n dX9_receive_64 rfl ?_
    refine xi_aload_n dX9_receive_65 rfl ?_
    refine xi_getR dX9_receive_66 fgX9_65 cc0 rfl ?_
    refine xi_iload_n dX9_receive_69 rfl ?_
    refine xe_iald (v := nI (sq p)) p dX9_receive_70 cc22 (by decide) rfl (by omega) (by first | exact hKS p (by omega) | (rw [xa_n (by decide), xa_n (by decide)]; exact hKS p (by omega))) ?_
    refine xi_iconst (v := 1) dX9_receive_71 rfl ?_
    refine xe_iadd dX9_receive_72 (v := nI (sq p + 1)) (nI_add (sq p) 1) ?_
    refine xi_sipush (v := 255) dX9_receive_73 (by decide) ?_
    refine xe_iand dX9_receive_76 (v := nI ((sq p + 1) % 256)) (pk_andN (by omega) 8 (by decide)) ?_
    refine xat 77 rfl ?_
    refine xe_iast p dX9_receive_77 cc22 (by decide) rfl (by omega) ?_
    refine xi_aload_n dX9_receive_78 rfl ?_
    refine xi_dup dX9_receive_79 rfl ?_
    refine xe_getI (v := nI nl) dX9_receive_80 fgX9_107 cc0 rfl hnl ?_
    refine xi_iconst (v := 1) dX9_receive_83 rfl ?_
    refine xe_iadd dX9_receive_84 (v := nI (nl + 1)) (nI_add nl 1) ?_
    refine xi_put dX9_receive_85 fpX9_107 cc0 rfl ?_
    generalize e3 : (xf (xa (xa (xa M 14 (upd (M.2.1 14) (4 * t + p) (nI c))) 16 (upd ((xa M 14 (upd (M.2.1 14) (4 * t + p) (nI c))).2.1 16) (4 * t + p) (xb false))) 22 (upd ((xa (xa M 14 (upd (M.2.1 14) (4 * t + p) (nI c))) 16 (upd ((xa M 14 (upd (M.2.1 14) (4 * t + p) (nI c))).2.1 16) (4 * t + p) (xb false))).2.1 22) p (nI ((sq p + 1) % 256)))) 0 12 (nI (nl + 1))) = M3
    obtain ⟨k1, k2, k3, k4, k5, k6, k7, k8, k9⟩ := RepC_act (b := false) hC (by omega) e3.symm
    refine xi_iload dX9_receive_88 rfl ?_
    refine xi_aload_n dX9_receive_90 rfl ?_
    refine xe_getI (v := nI now) dX9_receive_91 fgX9_98 cc0 rfl k9.1 ?_
    refine xn_icmp_lt t now 99 dX9_receive_94 (by decide) rfl rfl (by omega) (by omega) (fun z => absurd z (by omega)) (fun h94 => ?_)
    refine xi_iconst (v := 0) dX9_receive_97 rfl ?_
    refine xat 98 rfl ?_
    refine xi_iret (v := 0) dX9_receive_98 rfl ?_
    have e9 : mrec (G, S0, now, late, risk, A, L, sq, nl, rf, hr, lg, w, tp) p b = (0, (G, S0, now, late, risk, va_up A (4 * t + p) c, va_up L (4 * t + p) false, va_up sq p ((sq p + 1) % 256), nl + 1, rf, hr, lg, w, tp)) := by show (if mrefuse G S0 now late A sq p (ub b) = 0 then mtake (G, S0, now, late, risk, A, L, sq, nl, rf, hr, lg, w, tp) p (ub b % 1024) (ub b / 1024 % 65536) else _) = _; rw [if_pos e, ← et, ← ec]; show (if now ≤ t then _ else _) = _; rw [if_pos (by omega)]
    rw [e9] at h
    refine h M3 (RepC_mk k1 k2 ⟨fun u q1 q2 => ?_, k3.2⟩ (by rw [Hx_up hW (by omega)]; exact k4) k5 k6 ?_ k8 k9)
    · rw [Zf_up hW (by omega)]; exact k3.1 u q1 q2
    · rw [Hx_up hW (by omega)]; exact fair_up k7 (by omega) (fun _ _ => rfl)
  · skip
    refine xi_iconst (v := 1) dX9_receive_52 rfl ?_
    refine xi_goto 57 dX9_receive_53 (by decide) ?_
    refine xi_callV [.int (nI t), .int (nI p), .int (nI c), .int 1] [] dX9_receive_57 zX3_noteAct mlX9_185 cc13 rfl rfl rfl rfl rfl (Nat.le_of_ble_eq_true rfl) (Nat.le_of_ble_eq_true rfl) ⟨by decide, by decide⟩ ?_
    refine g_noteAct (t := t) (p := p) (c := c) (b := true) (by omega) (by omega) ?_
    rw [ej]
    show WP _ _ 60 _ [] _ _
    refine xi_aload_n dX9_receive_60 rfl ?_
    refine xi_getR dX9_receive_61 fgX9_65 cc0 rfl ?_
    refine xi_iload_n dX9_receive_64 rfl ?_
    refine xi_aload_n dX9_receive_65 rfl ?_
    refine xi_getR dX9_receive_66 fgX9_65 cc0 rfl ?_
    refine xi_iload_n dX9_receive_69 rfl ?_
    refine xe_iald (v := nI (sq p)) p dX9_receive_70 cc22 (by decide) rfl (by omega) (by first | exact hKS p (by omega) | (rw [xa_n (by decide), xa_n (by decide)]; exact hKS p (by omega))) ?_
    refine xi_iconst (v := 1) dX9_receive_71 rfl ?_
    refine xe_iadd dX9_receive_72 (v := nI (sq p + 1)) (nI_add (sq p) 1) ?_
    refine xi_sipush (v := 255) dX9_receive_73 (by decide) ?_
    refine xe_iand dX9_receive_76 (v := nI ((sq p + 1) % 256)) (pk_andN (by omega) 8 (by decide)) ?_
    refine xat 77 rfl ?_
    refine xe_iast p dX9_receive_77 cc22 (by decide) rfl (by omega) ?_
    refine xi_aload_n dX9_receive_78 rfl ?_
    refine xi_dup dX9_receive_79 rfl ?_
    refine xe_getI (v := nI nl) dX9_receive_80 fgX9_107 cc0 rfl hnl ?_
    refine xi_iconst (v := 1) dX9_receive_83 rfl ?_
    refine xe_iadd dX9_receive_84 (v := nI (nl + 1)) (nI_add nl 1) ?_
    refine xi_put dX9_receive_85 fpX9_107 cc0 rfl ?_
    generalize e3 : (xf (xa (xa (xa M 14 (upd (M.2.1 14) (4 * t + p) (nI c))) 16 (upd ((xa M 14 (upd (M.2.1 14) (4 * t + p) (nI c))).2.1 16) (4 * t + p) (xb true))) 22 (upd ((xa (xa M 14 (upd (M.2.1 14) (4 * t + p) (nI c))) 16 (upd ((xa M 14 (upd (M.2.1 14) (4 * t + p) (nI c))).2.1 16) (4 * t + p) (xb true))).2.1 22) p (nI ((sq p + 1) % 256)))) 0 12 (nI (nl + 1))) = M3
    obtain ⟨k1, k2, k3, k4, k5, k6, k7, k8, k9⟩ := RepC_act (b := true) hC (by omega) e3.symm
    refine xi_iload dX9_receive_88 rfl ?_
    refine xi_aload_n dX9_receive_90 rfl ?_
    refine xe_getI (v := nI now) dX9_receive_91 fgX9_98 cc0 rfl k9.1 ?_
    refine xn_icmp_lt t now 99 dX9_receive_94 (by decide) rfl rfl (by omega) (by omega) (fun h94 => ?_) (fun z => absurd z (by omega))
    refine xi_aload_n dX9_receive_99 rfl ?_
    refine xat 100 rfl ?_
    refine xi_getR dX9_receive_100 fgX9_47 cc0 rfl ?_
    refine xi_aload_n dX9_receive_103 rfl ?_
    refine xi_getR dX9_receive_104 fgX9_40 cc0 rfl ?_
    refine xi_iload dX9_receive_107 rfl ?_
    refine xi_aload_n dX9_receive_109 rfl ?_
    refine xe_getI (v := nI now) dX9_receive_110 fgX9_98 cc0 rfl k9.1 ?_
    refine xi_callV [.ref 13, .int (nI t), .int (nI now)] [] dX9_receive_113 zX2_keepHits mlX9_189 cc17 rfl rfl rfl rfl rfl (Nat.le_of_ble_eq_true rfl) (Nat.le_of_ble_eq_true rfl) ⟨by decide, by decide⟩ ?_
    refine e_keep (fr := t) (now := now) wn (by omega) (by omega) k4 (fun M4 F4 I4 => ?_)
    have fr4 : ∀ lo hi, (19 < lo ∨ hi < 19) → sC2 lo hi M3 M4 := fun lo hi q a q1 q2 => ⟨by rw [F4.1], F4.2.2 a (by omega), by rw [F4.2.1]⟩
    show WP _ _ 116 _ [] _ _
    refine xi_aload_n dX9_receive_116 rfl ?_
    refine xi_getR dX9_receive_117 fgX9_30 cc0 rfl ?_
    refine xi_iload dX9_receive_120 rfl ?_
    refine xi_aload_n dX9_receive_122 rfl ?_
    refine xe_getI (v := nI now) dX9_receive_123 fgX9_98 cc0 rfl ((congrFun (congrFun F4.1 0) 9).trans k9.1) ?_
    refine xi_aload_n dX9_receive_126 rfl ?_
    refine xi_getR dX9_receive_127 fgX9_40 cc0 rfl ?_
    refine xi_callV [.int (nI t), .int (nI now), .ref 13] [] dX9_receive_130 zX5_work mlX9_193 cc9 rfl rfl rfl rfl rfl (Nat.le_of_ble_eq_true rfl) (Nat.le_of_ble_eq_true rfl) ⟨by decide, by decide⟩ ?_
    have r4 : CR G (Zf G (va_up A (4 * t + p) c) S0) M4 (max (now - 15) (t - 15)) t := fun u q1 q2 => by rw [Zf_up hW (by omega)]; exact (k3.1 u (by omega) (by omega)).sm (fr4 _ _ (by omega))
    refine s_work9 (A := va_up A (4 * t + p) c) (Z := Zf G (va_up A (4 * t + p) c) S0) hW (lo := now - 15) (fr := t) (to := now) wn (by omega) (by omega) (k1.sm (fr4 _ _ (by omega))) r4 (wS_Zf hW hw0 t) (k4.sm (fr4 _ _ (by omega))) (fun u _ _ => rfl) (fun M5 F5 R5 l5 w5 => ?_)
    rw [Nat.max_self] at R5
    rw [Hx_back (A := A) (B := va_up A (4 * t + p) c) hW (fun i hi => (up_n (by omega)).symm) (by omega)] at l5
    show WP _ _ 133 _ [] _ _
    refine xi_aload_n dX9_receive_133 rfl ?_
    refine xi_getR dX9_receive_134 fgX9_47 cc0 rfl ?_
    refine xi_aload_n dX9_receive_137 rfl ?_
    refine xi_getR dX9_receive_138 fgX9_40 cc0 rfl ?_
    refine xi_iload dX9_receive_141 rfl ?_
    refine xi_aload_n dX9_receive_143 rfl ?_
    refine xe_getI (v := nI now) dX9_receive_144 fgX9_98 cc0 rfl ((congrFun (congrFun F5.1 0) 9).trans ((congrFun (congrFun F4.1 0) 9).trans k9.1)) ?_
    refine xi_callV [.ref 13, .int (nI t), .int (nI now)] [] dX9_receive_147 zX2_noteGoingBack mlX9_197 cc17 rfl rfl rfl rfl rfl (Nat.le_of_ble_eq_true rfl) (Nat.le_of_ble_eq_true rfl) ⟨by decide, by decide⟩ ?_
    have E5 : KE lg M5 := KE.two (KE.two k5 (by rw [F4.1]) (F4.2.2 18 (by decide))) (by rw [F5.1]) (F5.2.2 18 (by decide) (by omega))
    refine e_gb (B := 32 * (nl + 1)) (H := Hx G A S0 now) (fr := t) (now := now) wn (by omega) (by omega) (fun i => Hx_le hW hw0 i) (by omega) l5 (by rw [F5.2.2 19 (by decide) (by omega)]; exact I4) E5 (by omega) wmo (fun M6 F6 E6 => ?_)
    have fr56 : ∀ lo hi, (18 < lo ∨ hi < 17) → sC2 lo hi M5 M6 := fun lo hi q a q1 q2 => ⟨F6.1 a (by omega), F6.2.2 a (by omega), by rw [F6.2.1]⟩
    have fr6 : ∀ lo hi, (19 < lo ∨ hi < 17) → (220 < lo ∨ hi < 62) → (hi < 15 ∨ 15 < lo) → sC2 lo hi M3 M6 := fun lo hi q q2 q3 => ((fr4 lo hi (by omega)).tr (sC2.fk F5 (by omega) q3)).tr (fr56 lo hi (by omega))
    show WP _ _ 150 _ [] _ _
    refine xi_aload_n dX9_receive_150 rfl ?_
    refine xe_getI (v := nI now) dX9_receive_151 fgX9_98 cc0 rfl ((congrFun (F6.1 0 (by decide)) 9).trans ((congrFun (congrFun F5.1 0) 9).trans ((congrFun (congrFun F4.1 0) 9).trans k9.1))) ?_
    refine xi_iload dX9_receive_154 rfl ?_
    refine xe_isub dX9_receive_156 (v := nI (now - t)) (pk_sub (by omega)) ?_
    refine xi_iret (v := nI (now - t)) dX9_receive_157 rfl ?_
    have e9 : mrec (G, S0, now, late, risk, A, L, sq, nl, rf, hr, lg, w, tp) p b = (nI (now - t), (G, S0, now, late, risk, va_up A (4 * t + p) c, va_up L (4 * t + p) true, va_up sq p ((sq p + 1) % 256), nl + 1, rf, hr, mtb (Hx G A S0 now) (Hx G (va_up A (4 * t + p) c) S0 now) now (4 * t) (4 * (now - t)) (lg.1 + 1, lg.2.1 + (now - t), max lg.2.2.1 (now - t), lg.2.2.2.1, lg.2.2.2.2), w, tp)) := by show (if mrefuse G S0 now late A sq p (ub b) = 0 then mtake (G, S0, now, late, risk, A, L, sq, nl, rf, hr, lg, w, tp) p (ub b % 1024) (ub b / 1024 % 65536) else _) = _; rw [if_pos e, ← et, ← ec]; show (if now ≤ t then _ else _) = _; rw [if_neg (by omega)]
    rw [e9] at h
    refine h M6 (RepC_mk (k1.sm (fr6 _ _ (by omega) (by omega) (by omega))) (k2.sm (fr6 _ _ (by omega) (by omega) (by omega))) ⟨fun u q1 q2 => (R5 u q1 q2).sm (fr56 _ _ (by omega)), fun z => by omega⟩ (l5.sm (fr56 _ _ (by omega))) E6 (k6.sm (fr6 _ _ (by omega) (by omega) (by omega))) ?_ (k8.sm (fr6 _ _ (by omega) (by omega) (by omega))) (k9.sm (fr6 _ _ (by omega) (by omega) (by omega))))
    exact (fair_up k7 (by omega) (fun i hi => by unfold Hx; rw [if_pos (by omega), if_pos (by omega)]; exact Hf_A hW (t := t) (fun k hk => (up_n (by omega)).symm) (by omega))).sm (fr6 _ _ (by omega) (by omega) (by omega))

set_option maxHeartbeats 4000000 in
set_option maxRecDepth 100000 in
theorem c_rec {G : xG} {S0 : xS} {now late risk : Nat} {A : Nat → Nat} {L : Nat → Bool} {sq : Nat → Nat} {nl : Nat} {rf hr : Int32} {lg : xE2} {w : xw} {tp : Nat → xT} {M : xM} {Q : Option Value → xM → Prop} (hX : wX (G, S0, now, late, risk, A, L, sq, nl, rf, hr, lg, w, tp)) (hC : RepC (G, S0, now, late, risk, A, L, sq, nl, rf, hr, lg, w, tp) M) {p : Nat} {b : Int64} (hp : p < gP G) (h : ∀ M2, RepC (mrec (G, S0, now, late, risk, A, L, sq, nl, rf, hr, lg, w, tp) p b).2 M2 → Q (some (.int (mrec (G, S0, now, late, risk, A, L, sq, nl, rf, hr, lg, w, tp) p b).1)) M2) : WP shC mX9_receive 0 [some (.ref 0), some (.int (nI p)), some (.long b), none, none, none] [] M Q := by
  rcases mref_sign (G := G) (S0 := S0) (now := now) (late := late) (A := A) (sq := sq) (p := p) (U := ub b) with e | e
  · exact c_recT hX hC hp e h
  · exact c_recF hX hC hp e h

set_option maxHeartbeats 4000000 in
set_option maxRecDepth 100000 in
theorem c_refN {G : xG} {S0 : xS} {now late risk : Nat} {A : Nat → Nat} {L : Nat → Bool} {sq : Nat → Nat} {nl : Nat} {rf hr : Int32} {lg : xE2} {w : xw} {tp : Nat → xT} {M : xM} {Q : Option Value → xM → Prop} (hX : wX (G, S0, now, late, risk, A, L, sq, nl, rf, hr, lg, w, tp)) (hC : RepC (G, S0, now, late, risk, A, L, sq, nl, rf, hr, lg, w, tp) M) {x : Int32} {b : Int64} (hc : x < 0 ∨ nI (gP G) ≤ x) (h : Q (some (.int (-1))) M) : WP shC mX9_refusalOf 0 [some (.ref 0), some (.int x), some (.long b), none, none, none] [] M Q := by
  obtain ⟨hW, hw0, wn, wl, wr, wA_, wsq, wnl, wmo, wtk, wwt, wtp, wO0, wB0⟩ := id hX
  obtain ⟨b1, b2, b3, b4, b5, b6, b7, b8, b9, wmap, wlink, wk0, wk1, b10, b11, wword⟩ := id hW
  have nb : nl ≤ 2000 := by rw [wnl]; exact mcnt_le 2000
  obtain ⟨hG, hKF, hKR, hL, hKE, hKS, hKW, hKT, hKM⟩ := id hC
  obtain ⟨hno, hla, hri, hnl, hrf, hhr⟩ := id hKM
  have hSn : CS G (Zf G A S0 now) M (61 + 10 * (now % 16)) := hKR.1 now (by omega) (by omega)
  have hwn : wS G (Zf G A S0 now) := wS_Zf hW hw0 now
  refine xi_aload_n dX9_refusalOf_0 rfl ?_
  refine xi_getR dX9_refusalOf_1 fgX9_10 cc0 rfl ?_
  refine xi_iload_n dX9_refusalOf_4 rfl ?_
  refine xi_callV [.int x] [] dX9_refusalOf_5 zX1_hasPlayer mlX9_200 cc1 rfl rfl rfl rfl rfl (Nat.le_of_ble_eq_true rfl) (Nat.le_of_ble_eq_true rfl) ⟨by decide, by decide⟩ ?_
  refine g_hasPF hW hG hc ?_
  show WP _ _ 8 _ [.int (xb false)] _ _
  refine xb_if_ne false 13 dX9_refusalOf_8 (by decide) rfl (fun z => absurd z (by decide)) (fun _ => ?_)
  refine xi_iconst (v := (-1)) dX9_refusalOf_11 rfl ?_
  refine xi_iret (v := (-1)) dX9_refusalOf_12 rfl ?_
  exact h

set_option maxHeartbeats 4000000 in
set_option maxRecDepth 100000 in
theorem c_recN {G : xG} {S0 : xS} {now late risk : Nat} {A : Nat → Nat} {L : Nat → Bool} {sq : Nat → Nat} {nl : Nat} {rf hr : Int32} {lg : xE2} {w : xw} {tp : Nat → xT} {M : xM} {Q : Option Value → xM → Prop} (hX : wX (G, S0, now, late, risk, A, L, sq, nl, rf, hr, lg, w, tp)) (hC : RepC (G, S0, now, late, risk, A, L, sq, nl, rf, hr, lg, w, tp) M) {x : Int32} {b : Int64} (hc : x < 0 ∨ nI (gP G) ≤ x) (h : ∀ M2, RepC (G, S0, now, late, risk, A, L, sq, nl, rf + 1, hr, lg, w, tp) M2 → Q (some (.int (-1))) M2) : WP shC mX9_receive 0 [some (.ref 0), some (.int x), some (.long b), none, none, none] [] M Q := by
  obtain ⟨hW, hw0, wn, wl, wr, wA_, wsq, wnl, wmo, wtk, wwt, wtp, wO0, wB0⟩ := id hX
  obtain ⟨b1, b2, b3, b4, b5, b6, b7, b8, b9, wmap, wlink, wk0, wk1, b10, b11, wword⟩ := id hW
  have nb : nl ≤ 2000 := by rw [wnl]; exact mcnt_le 2000
  obtain ⟨hG, hKF, hKR, hL, hKE, hKS, hKW, hKT, hKM⟩ := id hC
  obtain ⟨hno, hla, hri, hnl, hrf, hhr⟩ := id hKM
  have hSn : CS G (Zf G A S0 now) M (61 + 10 * (now % 16)) := hKR.1 now (by omega) (by omega)
  have hwn : wS G (Zf G A S0 now) := wS_Zf hW hw0 now
  refine xi_aload_n dX9_receive_0 rfl ?_
  refine xi_iload_n dX9_receive_1 rfl ?_
  refine xi_lload_n dX9_receive_2 rfl ?_
  refine xi_callV [.int x, .long b] [] dX9_receive_3 zX9_refusalOf mlX9_175 cc0 rfl rfl rfl rfl rfl (Nat.le_of_ble_eq_true rfl) (Nat.le_of_ble_eq_true rfl) ⟨by decide, by decide⟩ ?_
  refine c_refN hX hC hc ?_
  show WP _ _ 6 _ [.int (-1)] _ _
  refine xi_istore (lv' := [some (.ref 0), some (.int x), some (.long b), none, some (.int (-1)), none]) dX9_receive_6 (by decide) rfl ?_
  refine xi_iload dX9_receive_8 rfl ?_
  refine xi_if_ge 26 dX9_receive_10 (by decide) (fun z => absurd z (by decide)) (fun _ => ?_)
  refine xi_aload_n dX9_receive_13 rfl ?_
  refine xi_dup dX9_receive_14 rfl ?_
  refine xe_getI (v := rf) dX9_receive_15 fgX9_110 cc0 rfl hrf ?_
  refine xi_iconst (v := 1) dX9_receive_18 rfl ?_
  refine xi_iadd dX9_receive_19 ?_
  refine xi_put dX9_receive_20 fpX9_110 cc0 rfl ?_
  refine xi_iload dX9_receive_23 rfl ?_
  refine xi_iret (v := (-1)) dX9_receive_25 rfl ?_
  exact h _ (RepC_rf hC)

set_option maxHeartbeats 4000000 in
set_option maxRecDepth 100000 in
theorem cl_feed {X : xX} {M : xM} {Q : Option Value → xM → Prop} (hX : wX X) (hC : RepC X M) (x0 : Int32) (x1 : Int64) (h : ∀ M2, RepC (st_feed X x0 x1).2 M2 → Q (some (.int (st_feed X x0 x1).1)) M2) : WP shC mX9_feed 0 [some (.ref 0), some (.int x0), some (.long x1), none] [] M Q := by
  obtain ⟨G, S0, now, late, risk, A, L, sq, nl, rf, hr, lg, w, tp⟩ := X
  obtain ⟨hW, hw0, wn, wl, wr, wA_, wsq, wnl, wmo, wtk, wwt, wtp, wO0, wB0⟩ := id hX
  obtain ⟨b1, b2, b3, b4, b5, b6, b7, b8, b9, wmap, wlink, wk0, wk1, b10, b11, wword⟩ := id hW
  have nb : nl ≤ 2000 := by rw [wnl]; exact mcnt_le 2000
  obtain ⟨hG, hKF, hKR, hL, hKE, hKS, hKW, hKT, hKM⟩ := id hC
  obtain ⟨hno, hla, hri, hnl, hrf, hhr⟩ := id hKM
  have hSn : CS G (Zf G A S0 now) M (61 + 10 * (now % 16)) := hKR.1 now (by omega) (by omega)
  have hwn : wS G (Zf G A S0 now) := wS_Zf hW hw0 now
  rcases xix_cases x0 (n := gP G) (by omega) with ⟨ec0, hc0⟩ | ⟨k0, hk0, rfl, ec0⟩
  · skip
    refine xi_aload_n dX9_feed_0 rfl ?_
    refine xi_iload_n dX9_feed_1 rfl ?_
    refine xi_lload_n dX9_feed_2 rfl ?_
    refine xi_callV [.int x0, .long x1] [] dX9_feed_3 zX9_receive mlX9_171 cc0 rfl rfl rfl rfl rfl (Nat.le_of_ble_eq_true rfl) (Nat.le_of_ble_eq_true rfl) ⟨by decide, by decide⟩ ?_
    refine c_recN hX hC hc0 (fun M1 hC1 => ?_)
    show WP _ _ 6 _ [.int (-1)] _ _
    refine xi_iret (v := (-1)) dX9_feed_6 rfl ?_
    simp only [st_feed, ec0] at h
    exact h M1 hC1
  refine xi_aload_n dX9_feed_0 rfl ?_
  refine xi_iload_n dX9_feed_1 rfl ?_
  refine xi_lload_n dX9_feed_2 rfl ?_
  refine xi_callV [.int (nI k0), .long x1] [] dX9_feed_3 zX9_receive mlX9_171 cc0 rfl rfl rfl rfl rfl (Nat.le_of_ble_eq_true rfl) (Nat.le_of_ble_eq_true rfl) ⟨by decide, by decide⟩ ?_
  refine c_rec hX hC hk0 (fun M1 hC1 => ?_)
  show WP _ _ 6 _ [.int ((mrec (G, S0, now, late, risk, A, L, sq, nl, rf, hr, lg, w, tp) k0 x1).1)] _ _
  refine xi_iret (v := (mrec (G, S0, now, late, risk, A, L, sq, nl, rf, hr, lg, w, tp) k0 x1).1) dX9_feed_6 rfl ?_
  simp only [st_feed, ec0] at h
  exact h M1 hC1

