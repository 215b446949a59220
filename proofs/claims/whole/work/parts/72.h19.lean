theorem RepM_rf {G : xG} {S0 : xS} {now late risk : Nat} {A : Nat → Nat} {L : Nat → Bool} {sq : Nat → Nat} {nl : Nat} {rf hr : Int32} {lg : xE2} {w : xw} {tp : Nat → xT} {M : xM} (hC : RepM (G, S0, now, late, risk, A, L, sq, nl, rf, hr, lg, w, tp) M) : RepM (G, S0, now, late, risk, A, L, sq, nl, rf + 1, hr, lg, w, tp) (xf M 0 19 (rf + 1)) := by
  obtain ⟨a, b, c, d, e, f, g, i, j, k0⟩ := hC
  exact RepM_mk a b c d e f g i j ⟨k0.1, k0.2.1, k0.2.2.1, k0.2.2.2.1, rfl, k0.2.2.2.2.2⟩
theorem RepM_act {G : xG} {S0 : xS} {now late risk : Nat} {A : Nat → Nat} {L : Nat → Bool} {sq : Nat → Nat} {nl : Nat} {rf hr : Int32} {lg : xE2} {w : xw} {tp : Nat → xT} {M : xM} {p c t : Nat} {b : Bool} {M3 : xM} (hW : wG G) (hC : RepM (G, S0, now, late, risk, A, L, sq, nl, rf, hr, lg, w, tp) M) (e3 : M3 = xf (xa (xa (xa M 6 (upd (M.2.1 6) (4 * t + p) (nI c))) 7 (upd (M.2.1 7) (4 * t + p) (xb b))) 9 (upd (M.2.1 9) p (nI ((sq p + 1) % 256)))) 0 18 (nI (nl + 1))) : MG G M3 ∧ NS G (Zf G A S0) now M3 ∧ MA (va_up A (4 * t + p) c) M3 ∧ NL (va_up L (4 * t + p) b) M3 ∧ MH (Hx G A S0 now) M3 ∧ NE lg M3 ∧ NQ (va_up sq p ((sq p + 1) % 256)) M3 ∧ MWt w M3 ∧ NT tp M3 ∧ NM now late risk (nl + 1) rf hr M3 := by
  obtain ⟨a, b2, c2, d, e, f, g, i, j, k0⟩ := hC
  subst e3
  refine ⟨a, b2, fun i hi => ?_, fun i hi => ?_, e, f, fun q hq => ?_, i, j, k0.1, k0.2.1, k0.2.2.1, rfl, k0.2.2.2.2.1, k0.2.2.2.2.2⟩
  · rw [xf_a, xa_n (by decide), xa_n (by decide), xa_s]
    by_cases e : i = (4 * t + p)
    · rw [e, upd_s, up_s]
    · rw [upd_n e, up_n e]; exact c2 i hi
  · rw [xf_a, xa_n (by decide), xa_s]
    by_cases e : i = (4 * t + p)
    · rw [e, upd_s, up_s]
    · rw [upd_n e, up_n e]; exact d i hi
  · rw [xf_a, xa_s]
    by_cases e : q = p
    · rw [e, upd_s, up_s]
    · rw [upd_n e, up_n e]; exact g q hq
theorem wA_up {A : Nat → Nat} {j c : Nat} (h : wA A) (hc : c < 1024) : wA (va_up A j c) := fun i => by
  by_cases e : i = j
  · rw [e, up_s]; exact Or.inl hc
  · rw [up_n e]; exact h i
set_option maxHeartbeats 4000000 in
set_option maxRecDepth 100000 in
theorem o_recF {G : xG} {S0 : xS} {now late risk : Nat} {A : Nat → Nat} {L : Nat → Bool} {sq : Nat → Nat} {nl : Nat} {rf hr : Int32} {lg : xE2} {w : xw} {tp : Nat → xT} {M : xM} {Q : Option Value → xM → Prop} (hX : wX (G, S0, now, late, risk, A, L, sq, nl, rf, hr, lg, w, tp)) (hC : RepM (G, S0, now, late, risk, A, L, sq, nl, rf, hr, lg, w, tp) M) {p : Nat} {b : Int64} (hp : p < gP G) (e : mrefuse G S0 now late A sq p (ub b) < 0) (h : ∀ M2, RepM (mrec (G, S0, now, late, risk, A, L, sq, nl, rf, hr, lg, w, tp) p b).2 M2 → Q (some (.int (mrec (G, S0, now, late, risk, A, L, sq, nl, rf, hr, lg, w, tp) p b).1)) M2) : WP shM mX10_feed 0 [some (.ref 0), some (.int (nI p)), some (.long b), none, none, none] [] M Q := by
  obtain ⟨hW, hw0, wn, wl, wr, wA_, wsq, wnl, wmo, wtk, wwt, wtp, wO0, wB0⟩ := id hX
  obtain ⟨b1, b2, b3, b4, b5, b6, b7, b8, b9, wmap, wlink, wk0, wk1, b10, b11, wword⟩ := id hW
  have nb : nl ≤ 2000 := by rw [wnl]; exact mcnt_le 2000
  obtain ⟨hG, hNS, hNA, hNL, hNH, hNE, hNQ, hNW, hNT, hNM⟩ := id hC
  obtain ⟨hno, hla, hri, hnl, hrf, hhr⟩ := id hNM
  obtain ⟨s, es⟩ : ∃ s, s = 112 * now := ⟨_, rfl⟩
  have hs : s ≤ 56000 := by omega
  have hS : RM G (Zf G A S0 now) M s := by rw [es]; exact hNS.1 now (Nat.le_refl _)
  have hw : wS G (Zf G A S0 now) := wS_Zf hW hw0 now
  refine xi_iload_n dX10_feed_0 rfl ?_
  refine xi_iconst (v := 0) dX10_feed_1 rfl ?_
  refine xi_aload_n dX10_feed_2 rfl ?_
  refine xe_getI (v := nI (gP G)) dX10_feed_3 fgX10_16 mm0 rfl (mg_P hG) ?_
  refine xi_iconst (v := 1) dX10_feed_6 rfl ?_
  refine xi_isub dX10_feed_7 ?_
  refine xi_callS [.int (nI p), .int 0, .int (nI (gP G) - 1)] [] dX10_feed_8 zX10_in mlX10_137 rfl rfl rfl (Nat.le_of_ble_eq_true rfl) (Nat.le_of_ble_eq_true rfl) ⟨by decide, by decide⟩ ?_
  refine n_in1T (k := p) (n := (gP G)) (by omega) (by omega) ?_
  show WP _ _ 11 _ [.int (xb true)] _ _
  refine xb_if_eq true 23 dX10_feed_11 (by decide) rfl (fun z => absurd z (by decide)) (fun _ => ?_)
  refine xi_aload_n dX10_feed_14 rfl ?_
  refine xi_iload_n dX10_feed_15 rfl ?_
  refine xi_lload_n dX10_feed_16 rfl ?_
  refine xi_callV [.int (nI p), .long b] [] dX10_feed_17 zX10_lack mlX10_243 mm0 rfl rfl rfl rfl rfl (Nat.le_of_ble_eq_true rfl) (Nat.le_of_ble_eq_true rfl) ⟨by decide, by decide⟩ ?_
  refine o_lack hX hC (p := p) (b := b) (by omega) ?_
  show WP _ _ 20 _ [.int (mrefuse G S0 now late A sq p (ub b))] _ _
  refine xi_goto 24 dX10_feed_20 (by decide) ?_
  refine xi_istore (lv' := [some (.ref 0), some (.int (nI p)), some (.long b), none, some (.int (mrefuse G S0 now late A sq p (ub b))), none]) dX10_feed_24 (by decide) rfl ?_
  refine xi_iload dX10_feed_26 rfl ?_
  refine xi_if_ge 44 dX10_feed_28 (by decide) (fun h28 => ?_) (fun h28 => ?_)
  · exact absurd e (Int32.not_lt.mpr h28)
  · skip
    refine xi_aload_n dX10_feed_31 rfl ?_
    refine xi_dup dX10_feed_32 rfl ?_
    refine xe_getI (v := rf) dX10_feed_33 fgX10_118 mm0 rfl hrf ?_
    refine xi_iconst (v := 1) dX10_feed_36 rfl ?_
    refine xi_iadd dX10_feed_37 ?_
    refine xi_put dX10_feed_38 fpX10_118 mm0 rfl ?_
    refine xi_iload dX10_feed_41 rfl ?_
    refine xi_iret (v := mrefuse G S0 now late A sq p (ub b)) dX10_feed_43 rfl ?_
    have e9 : mrec (G, S0, now, late, risk, A, L, sq, nl, rf, hr, lg, w, tp) p b = (mrefuse G S0 now late A sq p (ub b), (G, S0, now, late, risk, A, L, sq, nl, rf + 1, hr, lg, w, tp)) := by show (if mrefuse G S0 now late A sq p (ub b) = 0 then _ else _) = _; rw [if_neg (fun z => by rw [z] at e; exact absurd e (by decide))]
    rw [e9] at h
    exact h _ (RepM_rf hC)

set_option maxHeartbeats 4000000 in
set_option maxRecDepth 100000 in
theorem o_recT {G : xG} {S0 : xS} {now late risk : Nat} {A : Nat → Nat} {L : Nat → Bool} {sq : Nat → Nat} {nl : Nat} {rf hr : Int32} {lg : xE2} {w : xw} {tp : Nat → xT} {M : xM} {Q : Option Value → xM → Prop} (hX : wX (G, S0, now, late, risk, A, L, sq, nl, rf, hr, lg, w, tp)) (hC : RepM (G, S0, now, late, risk, A, L, sq, nl, rf, hr, lg, w, tp) M) {p : Nat} {b : Int64} (hp : p < gP G) (e : mrefuse G S0 now late A sq p (ub b) = 0) (h : ∀ M2, RepM (mrec (G, S0, now, late, risk, A, L, sq, nl, rf, hr, lg, w, tp) p b).2 M2 → Q (some (.int (mrec (G, S0, now, late, risk, A, L, sq, nl, rf, hr, lg, w, tp) p b).1)) M2) : WP shM mX10_feed 0 [some (.ref 0), some (.int (nI p)), some (.long b), none, none, none] [] M Q := by
  obtain ⟨hW, hw0, wn, wl, wr, wA_, wsq, wnl, wmo, wtk, wwt, wtp, wO0, wB0⟩ := id hX
  obtain ⟨b1, b2, b3, b4, b5, b6, b7, b8, b9, wmap, wlink, wk0, wk1, b10, b11, wword⟩ := id hW
  have nb : nl ≤ 2000 := by rw [wnl]; exact mcnt_le 2000
  obtain ⟨hG, hNS, hNA, hNL, hNH, hNE, hNQ, hNW, hNT, hNM⟩ := id hC
  obtain ⟨hno, hla, hri, hnl, hrf, hhr⟩ := id hNM
  obtain ⟨s, es⟩ : ∃ s, s = 112 * now := ⟨_, rfl⟩
  have hs : s ≤ 56000 := by omega
  have hS : RM G (Zf G A S0 now) M s := by rw [es]; exact hNS.1 now (Nat.le_refl _)
  have hw : wS G (Zf G A S0 now) := wS_Zf hW hw0 now
  obtain ⟨t, et⟩ : ∃ t, t = ub b / 1024 % 65536 := ⟨_, rfl⟩
  obtain ⟨c, ec⟩ : ∃ c, c = ub b % 1024 := ⟨_, rfl⟩
  have cb : c < 1024 := by rw [ec]; exact Nat.mod_lt _ (by decide)
  have wsp := wsq p
  obtain ⟨m1, m2, m3, m4⟩ := mref_0 e
  rw [← et] at m1 m2 m3 m4
  refine xi_iload_n dX10_feed_0 rfl ?_
  refine xi_iconst (v := 0) dX10_feed_1 rfl ?_
  refine xi_aload_n dX10_feed_2 rfl ?_
  refine xe_getI (v := nI (gP G)) dX10_feed_3 fgX10_16 mm0 rfl (mg_P hG) ?_
  refine xi_iconst (v := 1) dX10_feed_6 rfl ?_
  refine xi_isub dX10_feed_7 ?_
  refine xi_callS [.int (nI p), .int 0, .int (nI (gP G) - 1)] [] dX10_feed_8 zX10_in mlX10_137 rfl rfl rfl (Nat.le_of_ble_eq_true rfl) (Nat.le_of_ble_eq_true rfl) ⟨by decide, by decide⟩ ?_
  refine n_in1T (k := p) (n := (gP G)) (by omega) (by omega) ?_
  show WP _ _ 11 _ [.int (xb true)] _ _
  refine xb_if_eq true 23 dX10_feed_11 (by decide) rfl (fun z => absurd z (by decide)) (fun _ => ?_)
  refine xi_aload_n dX10_feed_14 rfl ?_
  refine xi_iload_n dX10_feed_15 rfl ?_
  refine xi_lload_n dX10_feed_16 rfl ?_
  refine xi_callV [.int (nI p), .long b] [] dX10_feed_17 zX10_lack mlX10_243 mm0 rfl rfl rfl rfl rfl (Nat.le_of_ble_eq_true rfl) (Nat.le_of_ble_eq_true rfl) ⟨by decide, by decide⟩ ?_
  refine o_lack hX hC (p := p) (b := b) (by omega) ?_
  rw [e]
  show WP _ _ 20 _ [.int (nI 0)] _ _
  refine xi_goto 24 dX10_feed_20 (by decide) ?_
  refine xi_istore (lv' := [some (.ref 0), some (.int (nI p)), some (.long b), none, some (.int (nI 0)), none]) dX10_feed_24 (by decide) rfl ?_
  refine xi_iload dX10_feed_26 rfl ?_
  refine xn_if_ge 0 44 dX10_feed_28 (by decide) rfl (by omega) ?_
  refine xi_lload_n dX10_feed_44 rfl ?_
  refine xi_bipush (v := 10) dX10_feed_45 (by decide) ?_
  refine xi_bipush (v := 16) dX10_feed_47 (by decide) ?_
  refine xi_callS [.long b, .int 10, .int 16] [] dX10_feed_49 zX10_part mlX10_233 rfl rfl rfl (Nat.le_of_ble_eq_true rfl) (Nat.le_of_ble_eq_true rfl) ⟨by decide, by decide⟩ ?_
  refine o_p10 ?_
  rw [← et]
  show WP _ _ 52 _ [.int (nI t)] _ _
  refine xi_istore (lv' := [some (.ref 0), some (.int (nI p)), some (.long b), none, some (.int (nI 0)), some (.int (nI t))]) dX10_feed_52 (by decide) rfl ?_
  refine xi_aload_n dX10_feed_54 rfl ?_
  refine xi_getR dX10_feed_55 fgX10_42 mm0 rfl ?_
  refine xi_iconst (v := 4) dX10_feed_58 rfl ?_
  refine xi_iload dX10_feed_59 rfl ?_
  refine xe_imul dX10_feed_61 (v := nI (4 * t)) (pk_mul 4 t) ?_
  refine xi_iload_n dX10_feed_62 rfl ?_
  refine xe_iadd dX10_feed_63 (v := nI (4 * t + p)) (nI_add (4 * t) p) ?_
  refine xi_lload_n dX10_feed_64 rfl ?_
  refine xi_iconst (v := 0) dX10_feed_65 rfl ?_
  refine xi_iconst (v := 4) dX10_feed_66 rfl ?_
  refine xat 67 rfl ?_
  refine xi_callS [.long b, .int 0, .int 4] [.int (nI (4 * t + p)), .ref 6] dX10_feed_67 zX10_part mlX10_233 rfl rfl rfl (Nat.le_of_ble_eq_true rfl) (Nat.le_of_ble_eq_true rfl) ⟨by decide, by decide⟩ ?_
  refine o_p0 ?_
  rw [Nat.div_one]
  show WP _ _ 70 _ [.int (nI (ub b % 16)), .int (nI (4 * t + p)), .ref 6] _ _
  refine xi_bipush (v := 16) dX10_feed_70 (by decide) ?_
  refine xi_lload_n dX10_feed_72 rfl ?_
  refine xi_iconst (v := 4) dX10_feed_73 rfl ?_
  refine xi_iconst (v := 2) dX10_feed_74 rfl ?_
  refine xi_callS [.long b, .int 4, .int 2] [.int 16, .int (nI (ub b % 16)), .int (nI (4 * t + p)), .ref 6] dX10_feed_75 zX10_part mlX10_233 rfl rfl rfl (Nat.le_of_ble_eq_true rfl) (Nat.le_of_ble_eq_true rfl) ⟨by decide, by decide⟩ ?_
  refine o_p4 ?_
  show WP _ _ 78 _ [.int (nI (ub b / 16 % 4)), .int 16, .int (nI (ub b % 16)), .int (nI (4 * t + p)), .ref 6] _ _
  refine xe_imul dX10_feed_78 (v := nI (16 * (ub b / 16 % 4))) (pk_mul 16 (ub b / 16 % 4)) ?_
  refine xe_iadd dX10_feed_79 (v := nI (ub b % 16 + (16 * (ub b / 16 % 4)))) (nI_add (ub b % 16) (16 * (ub b / 16 % 4))) ?_
  refine xi_bipush (v := 64) dX10_feed_80 (by decide) ?_
  refine xi_lload_n dX10_feed_82 rfl ?_
  refine xi_bipush (v := 6) dX10_feed_83 (by decide) ?_
  refine xi_iconst (v := 4) dX10_feed_85 rfl ?_
  refine xi_callS [.long b, .int 6, .int 4] [.int 64, .int (nI (ub b % 16 + (16 * (ub b / 16 % 4)))), .int (nI (4 * t + p)), .ref 6] dX10_feed_86 zX10_part mlX10_233 rfl rfl rfl (Nat.le_of_ble_eq_true rfl) (Nat.le_of_ble_eq_true rfl) ⟨by decide, by decide⟩ ?_
  refine o_p6 ?_
  show WP _ _ 89 _ [.int (nI (ub b / 64 % 16)), .int 64, .int (nI (ub b % 16 + (16 * (ub b / 16 % 4)))), .int (nI (4 * t + p)), .ref 6] _ _
  refine xe_imul dX10_feed_89 (v := nI (64 * (ub b / 64 % 16))) (pk_mul 64 (ub b / 64 % 16)) ?_
  refine xe_iadd dX10_feed_90 (v := nI c) ((nI_add _ _).trans (congrArg nI (by omega))) ?_
  refine xe_iast (4 * t + p) dX10_feed_91 mm6 (by decide) rfl (by omega) ?_
  refine xi_aload_n dX10_feed_92 rfl ?_
  refine xi_getR dX10_feed_93 fgX10_45 mm0 rfl ?_
  refine xi_iconst (v := 4) dX10_feed_96 rfl ?_
  refine xi_iload dX10_feed_97 rfl ?_
  refine xe_imul dX10_feed_99 (v := nI (4 * t)) (pk_mul 4 t) ?_
  refine xi_iload_n dX10_feed_100 rfl ?_
  refine xe_iadd dX10_feed_101 (v := nI (4 * t + p)) (nI_add (4 * t) p) ?_
  refine xi_iload dX10_feed_102 rfl ?_
  refine xat 104 rfl ?_
  refine xi_aload_n dX10_feed_104 rfl ?_
  refine xe_getI (v := nI now) dX10_feed_105 fgX10_110 mm0 rfl hno ?_
  refine xn_icmp_ge t now 115 dX10_feed_108 (by decide) rfl rfl (by omega) (by omega) (fun h108 => ?_) (fun h108 => ?_)
  · skip
    refine xi_iconst (v := 0) dX10_feed_115 rfl ?_
    refine xe_zast (v := 0) (4 * t + p) dX10_feed_116 mm7 (by decide) rfl (by omega) (by decide) ?_
    refine xi_aload_n dX10_feed_117 rfl ?_
    refine xi_getR dX10_feed_118 fgX10_52 mm0 rfl ?_
    refine xi_iload_n dX10_feed_121 rfl ?_
    refine xi_aload_n dX10_feed_122 rfl ?_
    refine xi_getR dX10_feed_123 fgX10_52 mm0 rfl ?_
    refine xi_iload_n dX10_feed_126 rfl ?_
    refine xe_iald (v := nI (sq p)) p dX10_feed_127 mm9 (by decide) rfl (by omega) (hNQ p (by omega)) ?_
    refine xi_iconst (v := 1) dX10_feed_128 rfl ?_
    refine xe_iadd dX10_feed_129 (v := nI (sq p + 1)) (nI_add (sq p) 1) ?_
    refine xat 130 rfl ?_
    refine xi_sipush (v := 255) dX10_feed_130 (by decide) ?_
    refine xe_iand dX10_feed_133 (v := nI ((sq p + 1) % 256)) (pk_andN (by omega) 8 (by decide)) ?_
    refine xe_iast p dX10_feed_134 mm9 (by decide) rfl (by omega) ?_
    refine xi_aload_n dX10_feed_135 rfl ?_
    refine xi_dup dX10_feed_136 rfl ?_
    refine xe_getI (v := nI nl) dX10_feed_137 fgX10_115 mm0 rfl hnl ?_
    refine xi_iconst (v := 1) dX10_feed_140 rfl ?_
    refine xe_iadd dX10_feed_141 (v := nI (nl + 1)) (nI_add nl 1) ?_
    refine xi_put dX10_feed_142 fpX10_115 mm0 rfl ?_
    generalize e3 : (xf (xa (xa (xa M 6 (upd (M.2.1 6) (4 * t + p) (nI c))) 7 (upd ((xa M 6 (upd (M.2.1 6) (4 * t + p) (nI c))).2.1 7) (4 * t + p) 0)) 9 (upd ((xa (xa M 6 (upd (M.2.1 6) (4 * t + p) (nI c))) 7 (upd ((xa M 6 (upd (M.2.1 6) (4 * t + p) (nI c))).2.1 7) (4 * t + p) 0)).2.1 9) p (nI ((sq p + 1) % 256)))) 0 18 (nI (nl + 1))) = M3
    obtain ⟨k1, k2, k3, k4, k5, k6, k7, k8, k9, k10⟩ := RepM_act (b := false) (c := c) hW hC e3.symm
    refine xi_iload dX10_feed_145 rfl ?_
    refine xi_aload_n dX10_feed_147 rfl ?_
    refine xe_getI (v := nI now) dX10_feed_148 fgX10_110 mm0 rfl k10.1 ?_
    refine xat 151 rfl ?_
    refine xn_icmp_lt t now 156 dX10_feed_151 (by decide) rfl rfl (by omega) (by omega) (fun z => absurd z (by omega)) (fun h151 => ?_)
    refine xi_iconst (v := 0) dX10_feed_154 rfl ?_
    refine xi_iret (v := 0) dX10_feed_155 rfl ?_
    have e9 : mrec (G, S0, now, late, risk, A, L, sq, nl, rf, hr, lg, w, tp) p b = (0, (G, S0, now, late, risk, va_up A (4 * t + p) c, va_up L (4 * t + p) false, va_up sq p ((sq p + 1) % 256), nl + 1, rf, hr, lg, w, tp)) := by show (if mrefuse G S0 now late A sq p (ub b) = 0 then mtake (G, S0, now, late, risk, A, L, sq, nl, rf, hr, lg, w, tp) p (ub b % 1024) (ub b / 1024 % 65536) else _) = _; rw [if_pos e, ← et, ← ec]; show (if now ≤ t then _ else _) = _; rw [if_pos (by omega)]
    rw [e9] at h
    refine h M3 (RepM_mk k1 ⟨fun u hu => ?_, k2.2⟩ k3 k4 (by rw [Hx_up hW (by omega)]; exact k5) k6 k7 k8 k9 k10)
    rw [Zf_up hW (by omega)]; exact k2.1 u hu
  · skip
    refine xi_iconst (v := 1) dX10_feed_111 rfl ?_
    refine xi_goto 116 dX10_feed_112 (by decide) ?_
    refine xe_zast (v := 1) (4 * t + p) dX10_feed_116 mm7 (by decide) rfl (by omega) (by decide) ?_
    refine xi_aload_n dX10_feed_117 rfl ?_
    refine xi_getR dX10_feed_118 fgX10_52 mm0 rfl ?_
    refine xi_iload_n dX10_feed_121 rfl ?_
    refine xi_aload_n dX10_feed_122 rfl ?_
    refine xi_getR dX10_feed_123 fgX10_52 mm0 rfl ?_
    refine xi_iload_n dX10_feed_126 rfl ?_
    refine xe_iald (v := nI (sq p)) p dX10_feed_127 mm9 (by decide) rfl (by omega) (hNQ p (by omega)) ?_
    refine xi_iconst (v := 1) dX10_feed_128 rfl ?_
    refine xe_iadd dX10_feed_129 (v := nI (sq p + 1)) (nI_add (sq p) 1) ?_
    refine xi_sipush (v := 255) dX10_feed_130 (by decide) ?_
    refine xat 133 rfl ?_
    refine xe_iand dX10_feed_133 (v := nI ((sq p + 1) % 256)) (pk_andN (by omega) 8 (by decide)) ?_
    refine xe_iast p dX10_feed_134 mm9 (by decide) rfl (by omega) ?_
    refine xi_aload_n dX10_feed_135 rfl ?_
    refine xi_dup dX10_feed_136 rfl ?_
    refine xe_getI (v := nI nl) dX10_feed_137 fgX10_115 mm0 rfl hnl ?_
    refine xi_iconst (v := 1) dX10_feed_140 rfl ?_
    refine xe_iadd dX10_feed_141 (v := nI (nl + 1)) (nI_add nl 1) ?_
    refine xi_put dX10_feed_142 fpX10_115 mm0 rfl ?_
    generalize e3 : (xf (xa (xa (xa M 6 (upd (M.2.1 6) (4 * t + p) (nI c))) 7 (upd ((xa M 6 (upd (M.2.1 6) (4 * t + p) (nI c))).2.1 7) (4 * t + p) 1)) 9 (upd ((xa (xa M 6 (upd (M.2.1 6) (4 * t + p) (nI c))) 7 (upd ((xa M 6 (upd (M.2.1 6) (4 * t + p) (nI c))).2.1 7) (4 * t + p) 1)).2.1 9) p (nI ((sq p + 1) % 256)))) 0 18 (nI (nl + 1))) = M3
    obtain ⟨k1, k2, k3, k4, k5, k6, k7, k8, k9, k10⟩ := RepM_act (b := true) (c := c) hW hC e3.symm
    refine xi_iload dX10_feed_145 rfl ?_
    refine xi_aload_n dX10_feed_147 rfl ?_
    refine xe_getI (v := nI now) dX10_feed_148 fgX10_110 mm0 rfl k10.1 ?_
    refine xn_icmp_lt t now 156 dX10_feed_151 (by decide) rfl rfl (by omega) (by omega) (fun h151 => ?_) (fun z => absurd z (by omega))
    refine xat 156 rfl ?_
    refine xi_aload_n dX10_feed_156 rfl ?_
    refine xi_iload dX10_feed_157 rfl ?_
    refine xi_callV [.int (nI t)] [] dX10_feed_159 zX10_goBack mlX10_247 mm0 rfl rfl rfl rfl rfl (Nat.le_of_ble_eq_true rfl) (Nat.le_of_ble_eq_true rfl) ⟨by decide, by decide⟩ ?_
    have eK : mwH G (va_up A (4 * t + p) c) (Zf G (va_up A (4 * t + p) c) S0) t (now - t) (Hx G A S0 now) = Hx G (va_up A (4 * t + p) c) S0 now := Hx_back hW (fun i hi => (up_n (by omega)).symm) (by omega)
    refine n_goBack (B := va_up A (4 * t + p) c) (H := Hx G A S0 now) (lg := lg) (Bd := 32 * (nl + 1)) hW hw0 (wA_up wA_ cb) wn (by omega) (by omega) (by omega) (fun i => Hx_le hW hw0 i) (fun i => by rw [eK]; exact Hx_le hW hw0 i) (by omega) wmo k10.1 k1 k3 k5 (fun u hu => by rw [Zf_up hW (by omega)]; exact k2.1 u (by omega)) k6 (fun M6 F6 H6 R6 E6 => ?_)
    rw [eK] at H6 E6
    show WP _ _ 162 _ [] _ _
    refine xi_aload_n dX10_feed_162 rfl ?_
    refine xe_getI (v := nI now) dX10_feed_163 fgX10_110 mm0 rfl ((F6.1 10 (by omega)).trans k10.1) ?_
    refine xi_iload dX10_feed_166 rfl ?_
    refine xe_isub dX10_feed_168 (v := nI (now - t)) (pk_sub (by omega)) ?_
    refine xi_iret (v := nI (now - t)) dX10_feed_169 rfl ?_
    have e9 : mrec (G, S0, now, late, risk, A, L, sq, nl, rf, hr, lg, w, tp) p b = (nI (now - t), (G, S0, now, late, risk, va_up A (4 * t + p) c, va_up L (4 * t + p) true, va_up sq p ((sq p + 1) % 256), nl + 1, rf, hr, mtb (Hx G A S0 now) (Hx G (va_up A (4 * t + p) c) S0 now) now (4 * t) (4 * (now - t)) (lg.1 + 1, lg.2.1 + (now - t), max lg.2.2.1 (now - t), lg.2.2.2.1, lg.2.2.2.2), w, tp)) := by show (if mrefuse G S0 now late A sq p (ub b) = 0 then mtake (G, S0, now, late, risk, A, L, sq, nl, rf, hr, lg, w, tp) p (ub b % 1024) (ub b / 1024 % 65536) else _) = _; rw [if_pos e, ← et, ← ec]; show (if now ≤ t then _ else _) = _; rw [if_neg (by omega)]
    rw [e9] at h
    refine h M6 (RepM_mk (k1.sm (fun k _ => F6.1 k (by omega)) (fun a ha => F6.2.2.1 a (by omega) (by omega) (by omega) (by omega))) ⟨R6, fun n hn => ?_⟩ (k3.sm (F6.2.2.1 6 (by decide) (by decide) (by decide) (by decide))) (k4.sm (F6.2.2.1 7 (by decide) (by decide) (by decide) (by decide))) H6 E6 (k7.sm (F6.2.2.1 9 (by decide) (by decide) (by decide) (by decide))) (k8.sm (fun a q1 q2 => F6.2.2.1 a (by omega) (by omega) (by omega) (by omega)) (by rw [F6.2.1])) (k9.sm (fun a q1 q2 => F6.2.2.1 a (by omega) (by omega) (by omega) (by omega)) (by rw [F6.2.1])) (k10.sm (fun k hk => F6.1 k (by omega))))
    rw [F6.2.2.2 _ (by omega)]; exact k2.2 n hn

set_option maxHeartbeats 4000000 in
set_option maxRecDepth 100000 in
theorem o_rec {G : xG} {S0 : xS} {now late risk : Nat} {A : Nat → Nat} {L : Nat → Bool} {sq : Nat → Nat} {nl : Nat} {rf hr : Int32} {lg : xE2} {w : xw} {tp : Nat → xT} {M : xM} {Q : Option Value → xM → Prop} (hX : wX (G, S0, now, late, risk, A, L, sq, nl, rf, hr, lg, w, tp)) (hC : RepM (G, S0, now, late, risk, A, L, sq, nl, rf, hr, lg, w, tp) M) {p : Nat} {b : Int64} (hp : p < gP G) (h : ∀ M2, RepM (mrec (G, S0, now, late, risk, A, L, sq, nl, rf, hr, lg, w, tp) p b).2 M2 → Q (some (.int (mrec (G, S0, now, late, risk, A, L, sq, nl, rf, hr, lg, w, tp) p b).1)) M2) : WP shM mX10_feed 0 [some (.ref 0), some (.int (nI p)), some (.long b), none, none, none] [] M Q := by
  rcases mref_sign (G := G) (S0 := S0) (now := now) (late := late) (A := A) (sq := sq) (p := p) (U := ub b) with e | e
  · exact o_recT hX hC hp e h
  · exact o_recF hX hC hp e h

set_option maxHeartbeats 4000000 in
set_option maxRecDepth 100000 in
theorem o_recN {G : xG} {S0 : xS} {now late risk : Nat} {A : Nat → Nat} {L : Nat → Bool} {sq : Nat → Nat} {nl : Nat} {rf hr : Int32} {lg : xE2} {w : xw} {tp : Nat → xT} {M : xM} {Q : Option Value → xM → Prop} (hX : wX (G, S0, now, late, risk, A, L, sq, nl, rf, hr, lg, w, tp)) (hC : RepM (G, S0, now, late, risk, A, L, sq, nl, rf, hr, lg, w, tp) M) {x : Int32} {b : Int64} (hc : x < 0 ∨ nI (gP G) ≤ x) (h : ∀ M2, RepM (G, S0, now, late, risk, A, L, sq, nl, rf + 1, hr, lg, w, tp) M2 → Q (some (.int (-1))) M2) : WP shM mX10_feed 0 [some (.ref 0), some (.int x), some (.long b), none, none, none] [] M Q := by
  obtain ⟨hW, hw0, wn, wl, wr, wA_, wsq, wnl, wmo, wtk, wwt, wtp, wO0, wB0⟩ := id hX
  obtain ⟨b1, b2, b3, b4, b5, b6, b7, b8, b9, wmap, wlink, wk0, wk1, b10, b11, wword⟩ := id hW
  have nb : nl ≤ 2000 := by rw [wnl]; exact mcnt_le 2000
  obtain ⟨hG, hNS, hNA, hNL, hNH, hNE, hNQ, hNW, hNT, hNM⟩ := id hC
  obtain ⟨hno, hla, hri, hnl, hrf, hhr⟩ := id hNM
  obtain ⟨s, es⟩ : ∃ s, s = 112 * now := ⟨_, rfl⟩
  have hs : s ≤ 56000 := by omega
  have hS : RM G (Zf G A S0 now) M s := by rw [es]; exact hNS.1 now (Nat.le_refl _)
  have hw : wS G (Zf G A S0 now) := wS_Zf hW hw0 now
  refine xi_iload_n dX10_feed_0 rfl ?_
  refine xi_iconst (v := 0) dX10_feed_1 rfl ?_
  refine xi_aload_n dX10_feed_2 rfl ?_
  refine xe_getI (v := nI (gP G)) dX10_feed_3 fgX10_16 mm0 rfl (mg_P hG) ?_
  refine xi_iconst (v := 1) dX10_feed_6 rfl ?_
  refine xi_isub dX10_feed_7 ?_
  refine xi_callS [.int x, .int 0, .int (nI (gP G) - 1)] [] dX10_feed_8 zX10_in mlX10_137 rfl rfl rfl (Nat.le_of_ble_eq_true rfl) (Nat.le_of_ble_eq_true rfl) ⟨by decide, by decide⟩ ?_
  refine n_in1F (n := (gP G)) (by omega) hc ?_
  show WP _ _ 11 _ [.int (xb false)] _ _
  refine xb_if_eq false 23 dX10_feed_11 (by decide) rfl (fun _ => ?_) (fun z => absurd z (by decide))
  refine xi_iconst (v := (-1)) dX10_feed_23 rfl ?_
  refine xi_istore (lv' := [some (.ref 0), some (.int x), some (.long b), none, some (.int (-1)), none]) dX10_feed_24 (by decide) rfl ?_
  refine xi_iload dX10_feed_26 rfl ?_
  refine xi_if_ge 44 dX10_feed_28 (by decide) (fun z => absurd z (by decide)) (fun _ => ?_)
  refine xi_aload_n dX10_feed_31 rfl ?_
  refine xi_dup dX10_feed_32 rfl ?_
  refine xe_getI (v := rf) dX10_feed_33 fgX10_118 mm0 rfl hrf ?_
  refine xi_iconst (v := 1) dX10_feed_36 rfl ?_
  refine xi_iadd dX10_feed_37 ?_
  refine xi_put dX10_feed_38 fpX10_118 mm0 rfl ?_
  refine xat 41 rfl ?_
  refine xi_iload dX10_feed_41 rfl ?_
  refine xi_iret (v := (-1)) dX10_feed_43 rfl ?_
  exact h _ (RepM_rf hC)

set_option maxHeartbeats 4000000 in
set_option maxRecDepth 100000 in
theorem mo_feed {X : xX} {M : xM} {Q : Option Value → xM → Prop} (hX : wX X) (hC : RepM X M) (x0 : Int32) (x1 : Int64) (h : ∀ M2, RepM (st_feed X x0 x1).2 M2 → Q (some (.int (st_feed X x0 x1).1)) M2) : WP shM mX10_feed 0 [some (.ref 0), some (.int x0), some (.long x1), none, none, none] [] M Q := by
  obtain ⟨G, S0, now, late, risk, A, L, sq, nl, rf, hr, lg, w, tp⟩ := X
  obtain ⟨hW, hw0, wn, wl, wr, wA_, wsq, wnl, wmo, wtk, wwt, wtp, wO0, wB0⟩ := id hX
  obtain ⟨b1, b2, b3, b4, b5, b6, b7, b8, b9, wmap, wlink, wk0, wk1, b10, b11, wword⟩ := id hW
  have nb : nl ≤ 2000 := by rw [wnl]; exact mcnt_le 2000
  rcases xix_cases x0 (n := gP G) (by omega) with ⟨ec0, hc0⟩ | ⟨k0, hk0, rfl, ec0⟩
  · simp only [st_feed, ec0] at h
    exact o_recN hX hC hc0 h
  · simp only [st_feed, ec0] at h
    exact o_rec hX hC hk0 h

theorem wX_rec {G : xG} {S0 : xS} {now late risk : Nat} {A : Nat → Nat} {L : Nat → Bool} {sq : Nat → Nat} {nl : Nat} {rf hr : Int32} {lg : xE2} {w : xw} {tp : Nat → xT} {p : Nat} {b : Int64} (hX : wX (G, S0, now, late, risk, A, L, sq, nl, rf, hr, lg, w, tp)) (hp : p < gP G) : wX (mrec (G, S0, now, late, risk, A, L, sq, nl, rf, hr, lg, w, tp) p b).2 := by
  obtain ⟨hW, hw0, wn, wl, wr, wA_, wsq, wnl, wmo, wtk, wwt, wtp, wO0, wB0⟩ := id hX
  have b6 : gP G ≤ 4 := hW.2.2.2.2.2.1
  by_cases e : mrefuse G S0 now late A sq p (ub b) = 0
  · obtain ⟨m1, m2, m3, m4⟩ := mref_0 e
    have cb : ub b % 1024 < 1024 := Nat.mod_lt _ (by decide)
    rw [show mrec (G, S0, now, late, risk, A, L, sq, nl, rf, hr, lg, w, tp) p b = mtake (G, S0, now, late, risk, A, L, sq, nl, rf, hr, lg, w, tp) p (ub b % 1024) (ub b / 1024 % 65536) from if_pos e]
    generalize ub b / 1024 % 65536 = t at m1 m2 m3 m4
    generalize ub b % 1024 = c at cb
    have hsq : ∀ q, va_up sq p ((sq p + 1) % 256) q < 256 := fun q => by
      by_cases z : q = p
      · rw [z, up_s]; exact Nat.mod_lt _ (by decide)
      · rw [up_n z]; exact wsq q
    have hcn : nl + 1 = mcnt (va_up A (4 * t + p) c) 2000 := by rw [mcnt_up m4 (by omega) 2000 (by omega), wnl]
    by_cases q : now ≤ t
    · rw [show mtake (G, S0, now, late, risk, A, L, sq, nl, rf, hr, lg, w, tp) p c t = (0, (G, S0, now, late, risk, va_up A (4 * t + p) c, va_up L (4 * t + p) false, va_up sq p ((sq p + 1) % 256), nl + 1, rf, hr, lg, w, tp)) from if_pos q]
      exact ⟨hW, hw0, wn, wl, wr, wA_up wA_ cb, hsq, hcn, wmo, by omega, wwt, wtp, wO0, wB0⟩
    · rw [show mtake (G, S0, now, late, risk, A, L, sq, nl, rf, hr, lg, w, tp) p c t = (nI (now - t), (G, S0, now, late, risk, va_up A (4 * t + p) c, va_up L (4 * t + p) true, va_up sq p ((sq p + 1) % 256), nl + 1, rf, hr, mtb (Hx G A S0 now) (Hx G (va_up A (4 * t + p) c) S0 now) now (4 * t) (4 * (now - t)) (lg.1 + 1, lg.2.1 + (now - t), max lg.2.2.1 (now - t), lg.2.2.2.1, lg.2.2.2.2), w, tp)) from if_neg q]
      have k1 := mtb_keep (H := Hx G A S0 now) (K := Hx G (va_up A (4 * t + p) c) S0 now) (now := now) (4 * (now - t)) (4 * t) (lg.1 + 1, lg.2.1 + (now - t), max lg.2.2.1 (now - t), lg.2.2.2.1, lg.2.2.2.2)
      have k2 := mtb_le (H := Hx G A S0 now) (K := Hx G (va_up A (4 * t + p) c) S0 now) (now := now) (4 * (now - t)) (4 * t) (lg.1 + 1, lg.2.1 + (now - t), max lg.2.2.1 (now - t), lg.2.2.2.1, lg.2.2.2.2)
      refine ⟨hW, hw0, wn, wl, wr, wA_up wA_ cb, hsq, hcn, ?_, ?_, wwt, wtp, wO0, wB0⟩
      · rw [k1.2.2]; show max lg.2.2.1 (now - t) ≤ 8; omega
      · refine Nat.le_trans k2 ?_
        show lg.2.2.2.1 + 4 * (now - t) ≤ 32 * (nl + 1)
        omega
  · rw [show mrec (G, S0, now, late, risk, A, L, sq, nl, rf, hr, lg, w, tp) p b = (mrefuse G S0 now late A sq p (ub b), (G, S0, now, late, risk, A, L, sq, nl, rf + 1, hr, lg, w, tp)) from if_neg e]
    exact ⟨hW, hw0, wn, wl, wr, wA_, wsq, wnl, wmo, wtk, wwt, wtp, wO0, wB0⟩
theorem wx_feed {X : xX} (hX : wX X) (x : Int32) (b : Int64) : wX (st_feed X x b).2 := by
  obtain ⟨G, S0, now, late, risk, A, L, sq, nl, rf, hr, lg, w, tp⟩ := X
  have hW : wG G := hX.1
  have b6 : gP G ≤ 4 := hW.2.2.2.2.2.1
  rcases xix_cases x (n := gP G) (by omega) with ⟨ec0, hc0⟩ | ⟨k0, hk0, rfl, ec0⟩
  · simp only [st_feed, ec0]; exact hX
  · simp only [st_feed, ec0]; exact wX_rec hX hk0
