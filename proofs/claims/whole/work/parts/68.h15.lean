def mrefuse (G : xG) (S0 : xS) (now late : Nat) (A sq : Nat → Nat) (p U : Nat) : Int32 :=
  if ¬ U / 17179869184 = msumU U then -5
  else if mokU U = false then -3
  else if ¬ U / 67108864 % 256 = sq p then -6
  else if U / 1024 % 65536 + late < now then -7
  else if now + 2 < U / 1024 % 65536 ∨ 500 ≤ U / 1024 % 65536 then -8
  else if ¬ A (4 * (U / 1024 % 65536) + p) = 4096 then -9
  else if sL (Zf G A S0 (min (U / 1024 % 65536) now)) p = 0 then -10
  else if U / 1024 % 65536 ≤ now ∧ mforb G (Zf G A S0 (U / 1024 % 65536)) p (U % 1024) = true then -16 else 0
theorem n_craft2 {G : xG} {S : xS} {M : xM} {s : Nat} {Q : Option Value → xM → Prop} (hW : wG G) (hG : MG G M) (hs : s ≤ 56000) (hS : RM G S M s) (hw : wS G S) {p c k d : Nat} (hp : p < gP G) (hc : c < 1024) (ek : k = c % 16) (ed : d = c / 16 % 4) (h : Q (some (.int (xb (mforb G S p c)))) M) : WP shM mX10_isCrafted 0 [some (.ref 0), some (.int (nI s)), some (.int (nI p)), some (.int (nI k)), some (.int (nI d)), none, none, none] [] M Q := by
  subst ek ed
  exact n_crafted hW hG hs hS hw hp hc h

set_option maxHeartbeats 4000000 in
set_option maxRecDepth 100000 in
theorem c_refusal {G : xG} {S0 : xS} {now late risk : Nat} {A : Nat → Nat} {L : Nat → Bool} {sq : Nat → Nat} {nl : Nat} {rf hr : Int32} {lg : xE2} {w : xw} {tp : Nat → xT} {M : xM} {Q : Option Value → xM → Prop} (hX : wX (G, S0, now, late, risk, A, L, sq, nl, rf, hr, lg, w, tp)) (hC : RepC (G, S0, now, late, risk, A, L, sq, nl, rf, hr, lg, w, tp) M) {p : Nat} {b : Int64} (hp : p < gP G) (h : Q (some (.int (mrefuse G S0 now late A sq p (ub b)))) M) : WP shC mX9_refusalOf 0 [some (.ref 0), some (.int (nI p)), some (.long b), none, none, none] [] M Q := by
  obtain ⟨hW, hw0, wn, wl, wr, wA_, wsq, wnl, wmo, wtk, wwt, wtp, wO0, wB0⟩ := id hX
  obtain ⟨b1, b2, b3, b4, b5, b6, b7, b8, b9, wmap, wlink, wk0, wk1, b10, b11, wword⟩ := id hW
  have nb : nl ≤ 2000 := by rw [wnl]; exact mcnt_le 2000
  obtain ⟨hG, hKF, hKR, hL, hKE, hKS, hKW, hKT, hKM⟩ := id hC
  obtain ⟨hno, hla, hri, hnl, hrf, hhr⟩ := id hKM
  have hSn : CS G (Zf G A S0 now) M (61 + 10 * (now % 16)) := hKR.1 now (by omega) (by omega)
  have hwn : wS G (Zf G A S0 now) := wS_Zf hW hw0 now
  obtain ⟨t, et⟩ : ∃ t, t = ub b / 1024 % 65536 := ⟨_, rfl⟩
  have tb : t < 65536 := by rw [et]; exact Nat.mod_lt _ (by decide)
  have wsp := wsq p
  have wA1 := wA_ (t * 4 + p)
  refine xi_aload_n dX9_refusalOf_0 rfl ?_
  refine xi_getR dX9_refusalOf_1 fgX9_10 cc0 rfl ?_
  refine xi_iload_n dX9_refusalOf_4 rfl ?_
  refine xi_callV [.int (nI p)] [] dX9_refusalOf_5 zX1_hasPlayer mlX9_200 cc1 rfl rfl rfl rfl rfl (Nat.le_of_ble_eq_true rfl) (Nat.le_of_ble_eq_true rfl) ⟨by decide, by decide⟩ ?_
  refine g_hasPT hW hG (k := p) (by omega) ?_
  show WP _ _ 8 _ [.int (xb true)] _ _
  refine xb_if_ne true 13 dX9_refusalOf_8 (by decide) rfl (fun _ => ?_) (fun z => absurd z (by decide))
  refine xi_lload_n dX9_refusalOf_13 rfl ?_
  refine xi_callS [.long b] [] dX9_refusalOf_14 zX0_areWhole mlX9_203 rfl rfl rfl (Nat.le_of_ble_eq_true rfl) (Nat.le_of_ble_eq_true rfl) ⟨by decide, by decide⟩ ?_
  refine k_whole ?_
  show WP _ _ 17 _ [.int (xb (decide (ub b / 17179869184 = msumU (ub b))))] _ _
  refine xb_if_ne (decide (ub b / 17179869184 = msumU (ub b))) 23 dX9_refusalOf_17 (by decide) rfl (fun h17 => ?_) (fun h17 => ?_)
  · have e17 := of_decide_eq_true h17
    refine xi_lload_n dX9_refusalOf_23 rfl ?_
    refine xi_callS [.long b] [] dX9_refusalOf_24 zX0_areOfAKind mlX9_207 rfl rfl rfl (Nat.le_of_ble_eq_true rfl) (Nat.le_of_ble_eq_true rfl) ⟨by decide, by decide⟩ ?_
    refine k_ok ?_
    show WP _ _ 27 _ [.int (xb (mokU (ub b)))] _ _
    refine xb_if_ne (mokU (ub b)) 33 dX9_refusalOf_27 (by decide) rfl (fun h27 => ?_) (fun h27 => ?_)
    · skip
      refine xi_lload_n dX9_refusalOf_33 rfl ?_
      refine xi_callS [.long b] [] dX9_refusalOf_34 zX0_seqOf mlX9_210 rfl rfl rfl (Nat.le_of_ble_eq_true rfl) (Nat.le_of_ble_eq_true rfl) ⟨by decide, by decide⟩ ?_
      refine k_seqOf ?_
      show WP _ _ 37 _ [.int (nI (ub b / 67108864 % 256))] _ _
      refine xi_aload_n dX9_refusalOf_37 rfl ?_
      refine xi_getR dX9_refusalOf_38 fgX9_65 cc0 rfl ?_
      refine xi_iload_n dX9_refusalOf_41 rfl ?_
      refine xe_iald (v := nI (sq p)) p dX9_refusalOf_42 cc22 (by decide) rfl (by omega) (hKS p (by omega)) ?_
      refine xn_icmp_eq (ub b / 67108864 % 256) (sq p) 49 dX9_refusalOf_43 (by decide) rfl rfl (by omega) (by omega) (fun h43 => ?_) (fun h43 => ?_)
      · skip
        refine xi_lload_n dX9_refusalOf_49 rfl ?_
        refine xi_callS [.long b] [] dX9_refusalOf_50 zX0_tickOf mlX9_178 rfl rfl rfl (Nat.le_of_ble_eq_true rfl) (Nat.le_of_ble_eq_true rfl) ⟨by decide, by decide⟩ ?_
        refine k_tickOf ?_
        rw [← et]
        show WP _ _ 53 _ [.int (nI t)] _ _
        refine xi_istore (lv' := [some (.ref 0), some (.int (nI p)), some (.long b), none, some (.int (nI t)), none]) dX9_refusalOf_53 (by decide) rfl ?_
        refine xi_iload dX9_refusalOf_55 rfl ?_
        refine xi_aload_n dX9_refusalOf_57 rfl ?_
        refine xe_getI (v := nI now) dX9_refusalOf_58 fgX9_98 cc0 rfl hno ?_
        refine xi_aload_n dX9_refusalOf_61 rfl ?_
        refine xe_getI (v := nI late) dX9_refusalOf_62 fgX9_101 cc0 rfl hla ?_
        refine xi_isub dX9_refusalOf_65 ?_
        refine xs_icmp_ge t now late 72 dX9_refusalOf_66 (by decide) rfl rfl (by omega) (by omega) (by omega) (fun h66 => ?_) (fun h66 => ?_)
        · skip
          refine xi_iload dX9_refusalOf_72 rfl ?_
          refine xi_aload_n dX9_refusalOf_74 rfl ?_
          refine xe_getI (v := nI now) dX9_refusalOf_75 fgX9_98 cc0 rfl hno ?_
          refine xi_iconst (v := 2) dX9_refusalOf_78 rfl ?_
          refine xe_iadd dX9_refusalOf_79 (v := nI (now + 2)) (nI_add now 2) ?_
          refine xn_icmp_gt t (now + 2) 91 dX9_refusalOf_80 (by decide) rfl rfl (by omega) (by omega) (fun h80 => ?_) (fun h80 => ?_)
          · skip
            refine xi_bipush (v := (-8)) dX9_refusalOf_91 (by decide) ?_
            refine xi_iret (v := (-8)) dX9_refusalOf_93 rfl ?_
            have e : mrefuse G S0 now late A sq p (ub b) = (-8) := by
              unfold mrefuse
              rw [← et]
              rw [if_neg (fun q => q e17), if_neg (by rw [h27]; decide), if_neg (fun q => q h43), if_neg (by omega), if_pos (by omega)]
            rw [e] at h
            exact h
          · skip
            refine xi_iload dX9_refusalOf_83 rfl ?_
            refine xi_sipush (v := 500) dX9_refusalOf_85 (by decide) ?_
            refine xn_icmp_lt t 500 94 dX9_refusalOf_88 (by decide) rfl rfl (by omega) (by omega) (fun h88 => ?_) (fun h88 => ?_)
            · skip
              refine xi_aload_n dX9_refusalOf_94 rfl ?_
              refine xi_getR dX9_refusalOf_95 fgX9_40 cc0 rfl ?_
              refine xi_iload dX9_refusalOf_98 rfl ?_
              refine xi_iload_n dX9_refusalOf_100 rfl ?_
              refine xi_callV [.int (nI t), .int (nI p)] [] dX9_refusalOf_101 zX3_codeOf mlX9_213 cc13 rfl rfl rfl rfl rfl (Nat.le_of_ble_eq_true rfl) (Nat.le_of_ble_eq_true rfl) ⟨by decide, by decide⟩ ?_
              refine g_code hL (t := t) (p := p) (by omega) (by omega) ?_
              show WP _ _ 104 _ [.int (nI (A (t * 4 + p)))] _ _
              refine xi_sipush (v := 4096) dX9_refusalOf_104 (by decide) ?_
              refine xn_icmp_eq (A (t * 4 + p)) 4096 113 dX9_refusalOf_107 (by decide) rfl rfl (by omega) (by omega) (fun h107 => ?_) (fun h107 => ?_)
              · have e107 : A (4 * t + p) = 4096 := by rw [Nat.mul_comm]; exact h107
                refine xi_aload_n dX9_refusalOf_113 rfl ?_
                refine xi_getR dX9_refusalOf_114 fgX9_30 cc0 rfl ?_
                refine xi_iload dX9_refusalOf_117 rfl ?_
                refine xi_aload_n dX9_refusalOf_119 rfl ?_
                refine xe_getI (v := nI now) dX9_refusalOf_120 fgX9_98 cc0 rfl hno ?_
                refine xn_icmp_ge t now 131 dX9_refusalOf_123 (by decide) rfl rfl (by omega) (by omega) (fun h123 => ?_) (fun h123 => ?_)
                · skip
                  refine xi_aload_n dX9_refusalOf_131 rfl ?_
                  refine xe_getI (v := nI now) dX9_refusalOf_132 fgX9_98 cc0 rfl hno ?_
                  have hSk : CS G (Zf G A S0 now) M (61 + 10 * (now % 16)) := hKR.1 now (by omega) (by omega)
                  have hwk : wS G (Zf G A S0 now) := wS_Zf hW hw0 now
                  have em : Zf G A S0 (min t now) = Zf G A S0 now := by rw [show min t now = now by omega]
                  refine xi_callV [.int (nI now)] [] dX9_refusalOf_135 zX5_stateAt mlX9_215 cc9 rfl rfl rfl rfl rfl (Nat.le_of_ble_eq_true rfl) (Nat.le_of_ble_eq_true rfl) ⟨by decide, by decide⟩ ?_
                  refine g_at9 (t := now) (by omega) ?_
                  show WP _ _ 138 _ [.ref (61 + 10 * (now % 16))] _ _
                  refine xi_astore (lv' := [some (.ref 0), some (.int (nI p)), some (.long b), none, some (.int (nI t)), some (.ref (61 + 10 * (now % 16)))]) dX9_refusalOf_138 (by decide) rfl ?_
                  refine xi_aload dX9_refusalOf_140 rfl ?_
                  refine xi_getR dX9_refusalOf_142 fgX9_219 (so (isSt_ring now)) rfl ?_
                  refine xi_iload_n dX9_refusalOf_145 rfl ?_
                  have q1 := (hwk).2.1 p (by omega)
                  refine xe_iald (v := nI (sL (Zf G A S0 now) p)) p dX9_refusalOf_146 (sa2 (isSt_ring now)) (by decide) rfl (by omega) (csL hSk (by omega)) ?_
                  refine xn_if_gt (sL (Zf G A S0 now) p) 153 dX9_refusalOf_147 (by decide) rfl (by omega) (fun h147 => ?_) (fun h147 => ?_)
                  · skip
                    refine xi_iload dX9_refusalOf_153 rfl ?_
                    refine xi_aload_n dX9_refusalOf_155 rfl ?_
                    refine xe_getI (v := nI now) dX9_refusalOf_156 fgX9_98 cc0 rfl hno ?_
                    refine xn_icmp_gt t now 180 dX9_refusalOf_159 (by decide) rfl rfl (by omega) (by omega) (fun h159 => ?_) (fun h159 => ?_)
                    · skip
                      refine xi_iconst (v := 0) dX9_refusalOf_180 rfl ?_
                      refine xi_iret (v := 0) dX9_refusalOf_181 rfl ?_
                      have n8 : ¬ (t ≤ now ∧ mforb G (Zf G A S0 t) p (ub b % 1024) = true) := fun q => by first | omega | (have q2 := q.2; rw [h172] at q2; cases q2)
                      have e : mrefuse G S0 now late A sq p (ub b) = 0 := by
                        unfold mrefuse
                        rw [← et]
                        rw [if_neg (fun q => q e17), if_neg (by rw [h27]; decide), if_neg (fun q => q h43), if_neg (by omega), if_neg (by omega), if_neg (fun q => q e107), if_neg (by rw [em]; omega), if_neg (fun q => n8 q)]
                      rw [e] at h
                      exact h
                    · skip
                      refine xi_aload dX9_refusalOf_162 rfl ?_
                      refine xi_iload_n dX9_refusalOf_164 rfl ?_
                      refine xi_lload_n dX9_refusalOf_165 rfl ?_
                      refine xi_callS [.long b] [.int (nI p), .ref (61 + 10 * (now % 16))] dX9_refusalOf_166 zX0_codeOf mlX9_182 rfl rfl rfl (Nat.le_of_ble_eq_true rfl) (Nat.le_of_ble_eq_true rfl) ⟨by decide, by decide⟩ ?_
                      refine k_codeOf ?_
                      show WP _ _ 169 _ [.int (nI (ub b % 1024)), .int (nI p), .ref (61 + 10 * (now % 16))] _ _
                      refine xi_callV [.int (nI p), .int (nI (ub b % 1024))] [] dX9_refusalOf_169 zX6_forbids mlX9_222 (so (isSt_ring now)) rfl rfl rfl rfl rfl (Nat.le_of_ble_eq_true rfl) (Nat.le_of_ble_eq_true rfl) ⟨by decide, by decide⟩ ?_
                      have etn : now = t := by omega
                      refine s_forb hW hG (isSt_ring now) hSk hwk (p := p) (c := ub b % 1024) (by omega) (by omega) ?_
                      rw [etn]
                      show WP _ _ 172 _ [.int (xb (mforb G (Zf G A S0 t) p (ub b % 1024)))] _ _
                      refine xb_if_eq (mforb G (Zf G A S0 t) p (ub b % 1024)) 180 dX9_refusalOf_172 (by decide) rfl (fun h172 => ?_) (fun h172 => ?_)
                      · skip
                        refine xi_iconst (v := 0) dX9_refusalOf_180 rfl ?_
                        refine xi_iret (v := 0) dX9_refusalOf_181 rfl ?_
                        have n8 : ¬ (t ≤ now ∧ mforb G (Zf G A S0 t) p (ub b % 1024) = true) := fun q => by first | omega | (have q2 := q.2; rw [h172] at q2; cases q2)
                        have e : mrefuse G S0 now late A sq p (ub b) = 0 := by
                          unfold mrefuse
                          rw [← et]
                          rw [if_neg (fun q => q e17), if_neg (by rw [h27]; decide), if_neg (fun q => q h43), if_neg (by omega), if_neg (by omega), if_neg (fun q => q e107), if_neg (by rw [em]; omega), if_neg (fun q => n8 q)]
                        rw [e] at h
                        exact h
                      · skip
                        refine xi_bipush (v := (-16)) dX9_refusalOf_175 (by decide) ?_
                        refine xi_goto 181 dX9_refusalOf_177 (by decide) ?_
                        refine xi_iret (v := (-16)) dX9_refusalOf_181 rfl ?_
                        have e : mrefuse G S0 now late A sq p (ub b) = (-16) := by
                          unfold mrefuse
                          rw [← et]
                          rw [if_neg (fun q => q e17), if_neg (by rw [h27]; decide), if_neg (fun q => q h43), if_neg (by omega), if_neg (by omega), if_neg (fun q => q e107), if_neg (by rw [em]; omega), if_pos ⟨by omega, h172⟩]
                        rw [e] at h
                        exact h
                  · skip
                    refine xi_bipush (v := (-10)) dX9_refusalOf_150 (by decide) ?_
                    refine xi_iret (v := (-10)) dX9_refusalOf_152 rfl ?_
                    have e : mrefuse G S0 now late A sq p (ub b) = (-10) := by
                      unfold mrefuse
                      rw [← et]
                      rw [if_neg (fun q => q e17), if_neg (by rw [h27]; decide), if_neg (fun q => q h43), if_neg (by omega), if_neg (by omega), if_neg (fun q => q e107), if_pos (by rw [em]; omega)]
                    rw [e] at h
                    exact h
                · skip
                  refine xi_iload dX9_refusalOf_126 rfl ?_
                  refine xi_goto 135 dX9_refusalOf_128 (by decide) ?_
                  have hSk : CS G (Zf G A S0 t) M (61 + 10 * (t % 16)) := hKR.1 t (by omega) (by omega)
                  have hwk : wS G (Zf G A S0 t) := wS_Zf hW hw0 t
                  have em : Zf G A S0 (min t now) = Zf G A S0 t := by rw [show min t now = t by omega]
                  refine xi_callV [.int (nI t)] [] dX9_refusalOf_135 zX5_stateAt mlX9_215 cc9 rfl rfl rfl rfl rfl (Nat.le_of_ble_eq_true rfl) (Nat.le_of_ble_eq_true rfl) ⟨by decide, by decide⟩ ?_
                  refine g_at9 (t := t) (by omega) ?_
                  show WP _ _ 138 _ [.ref (61 + 10 * (t % 16))] _ _
                  refine xi_astore (lv' := [some (.ref 0), some (.int (nI p)), some (.long b), none, some (.int (nI t)), some (.ref (61 + 10 * (t % 16)))]) dX9_refusalOf_138 (by decide) rfl ?_
                  refine xi_aload dX9_refusalOf_140 rfl ?_
                  refine xi_getR dX9_refusalOf_142 fgX9_219 (so (isSt_ring t)) rfl ?_
                  refine xi_iload_n dX9_refusalOf_145 rfl ?_
                  have q2 := (hwk).2.1 p (by omega)
                  refine xe_iald (v := nI (sL (Zf G A S0 t) p)) p dX9_refusalOf_146 (sa2 (isSt_ring t)) (by decide) rfl (by omega) (csL hSk (by omega)) ?_
                  refine xn_if_gt (sL (Zf G A S0 t) p) 153 dX9_refusalOf_147 (by decide) rfl (by omega) (fun h147 => ?_) (fun h147 => ?_)
                  · skip
                    refine xi_iload dX9_refusalOf_153 rfl ?_
                    refine xi_aload_n dX9_refusalOf_155 rfl ?_
                    refine xe_getI (v := nI now) dX9_refusalOf_156 fgX9_98 cc0 rfl hno ?_
                    refine xn_icmp_gt t now 180 dX9_refusalOf_159 (by decide) rfl rfl (by omega) (by omega) (fun h159 => ?_) (fun h159 => ?_)
                    · skip
                      refine xi_iconst (v := 0) dX9_refusalOf_180 rfl ?_
                      refine xi_iret (v := 0) dX9_refusalOf_181 rfl ?_
                      have n8 : ¬ (t ≤ now ∧ mforb G (Zf G A S0 t) p (ub b % 1024) = true) := fun q => by first | omega | (have q2 := q.2; rw [h172] at q2; cases q2)
                      have e : mrefuse G S0 now late A sq p (ub b) = 0 := by
                        unfold mrefuse
                        rw [← et]
                        rw [if_neg (fun q => q e17), if_neg (by rw [h27]; decide), if_neg (fun q => q h43), if_neg (by omega), if_neg (by omega), if_neg (fun q => q e107), if_neg (by rw [em]; omega), if_neg (fun q => n8 q)]
                      rw [e] at h
                      exact h
                    · skip
                      refine xi_aload dX9_refusalOf_162 rfl ?_
                      refine xi_iload_n dX9_refusalOf_164 rfl ?_
                      refine xi_lload_n dX9_refusalOf_165 rfl ?_
                      refine xi_callS [.long b] [.int (nI p), .ref (61 + 10 * (t % 16))] dX9_refusalOf_166 zX0_codeOf mlX9_182 rfl rfl rfl (Nat.le_of_ble_eq_true rfl) (Nat.le_of_ble_eq_true rfl) ⟨by decide, by decide⟩ ?_
                      refine k_codeOf ?_
                      show WP _ _ 169 _ [.int (nI (ub b % 1024)), .int (nI p), .ref (61 + 10 * (t % 16))] _ _
                      refine xi_callV [.int (nI p), .int (nI (ub b % 1024))] [] dX9_refusalOf_169 zX6_forbids mlX9_222 (so (isSt_ring t)) rfl rfl rfl rfl rfl (Nat.le_of_ble_eq_true rfl) (Nat.le_of_ble_eq_true rfl) ⟨by decide, by decide⟩ ?_
                      refine s_forb hW hG (isSt_ring t) hSk hwk (p := p) (c := ub b % 1024) (by omega) (by omega) ?_
                      show WP _ _ 172 _ [.int (xb (mforb G (Zf G A S0 t) p (ub b % 1024)))] _ _
                      refine xb_if_eq (mforb G (Zf G A S0 t) p (ub b % 1024)) 180 dX9_refusalOf_172 (by decide) rfl (fun h172 => ?_) (fun h172 => ?_)
                      · skip
                        refine xi_iconst (v := 0) dX9_refusalOf_180 rfl ?_
                        refine xi_iret (v := 0) dX9_refusalOf_181 rfl ?_
                        have n8 : ¬ (t ≤ now ∧ mforb G (Zf G A S0 t) p (ub b % 1024) = true) := fun q => by first | omega | (have q2 := q.2; rw [h172] at q2; cases q2)
                        have e : mrefuse G S0 now late A sq p (ub b) = 0 := by
                          unfold mrefuse
                          rw [← et]
                          rw [if_neg (fun q => q e17), if_neg (by rw [h27]; decide), if_neg (fun q => q h43), if_neg (by omega), if_neg (by omega), if_neg (fun q => q e107), if_neg (by rw [em]; omega), if_neg (fun q => n8 q)]
                        rw [e] at h
                        exact h
                      · skip
                        refine xi_bipush (v := (-16)) dX9_refusalOf_175 (by decide) ?_
                        refine xi_goto 181 dX9_refusalOf_177 (by decide) ?_
                        refine xi_iret (v := (-16)) dX9_refusalOf_181 rfl ?_
                        have e : mrefuse G S0 now late A sq p (ub b) = (-16) := by
                          unfold mrefuse
                          rw [← et]
                          rw [if_neg (fun q => q e17), if_neg (by rw [h27]; decide), if_neg (fun q => q h43), if_neg (by omega), if_neg (by omega), if_neg (fun q => q e107), if_neg (by rw [em]; omega), if_pos ⟨by omega, h172⟩]
                        rw [e] at h
                        exact h
                  · skip
                    refine xi_bipush (v := (-10)) dX9_refusalOf_150 (by decide) ?_
                    refine xi_iret (v := (-10)) dX9_refusalOf_152 rfl ?_
                    have e : mrefuse G S0 now late A sq p (ub b) = (-10) := by
                      unfold mrefuse
                      rw [← et]
                      rw [if_neg (fun q => q e17), if_neg (by rw [h27]; decide), if_neg (fun q => q h43), if_neg (by omega), if_neg (by omega), if_neg (fun q => q e107), if_pos (by rw [em]; omega)]
                    rw [e] at h
                    exact h
              · have e107 : ¬ A (4 * t + p) = 4096 := by rw [Nat.mul_comm]; exact h107
                refine xi_bipush (v := (-9)) dX9_refusalOf_110 (by decide) ?_
                refine xi_iret (v := (-9)) dX9_refusalOf_112 rfl ?_
                have e : mrefuse G S0 now late A sq p (ub b) = (-9) := by
                  unfold mrefuse
                  rw [← et]
                  rw [if_neg (fun q => q e17), if_neg (by rw [h27]; decide), if_neg (fun q => q h43), if_neg (by omega), if_neg (by omega), if_pos (fun q => e107 q)]
                rw [e] at h
                exact h
            · skip
              refine xi_bipush (v := (-8)) dX9_refusalOf_91 (by decide) ?_
              refine xi_iret (v := (-8)) dX9_refusalOf_93 rfl ?_
              have e : mrefuse G S0 now late A sq p (ub b) = (-8) := by
                unfold mrefuse
                rw [← et]
                rw [if_neg (fun q => q e17), if_neg (by rw [h27]; decide), if_neg (fun q => q h43), if_neg (by omega), if_pos (by omega)]
              rw [e] at h
              exact h
        · skip
          refine xi_bipush (v := (-7)) dX9_refusalOf_69 (by decide) ?_
          refine xi_iret (v := (-7)) dX9_refusalOf_71 rfl ?_
          have e : mrefuse G S0 now late A sq p (ub b) = (-7) := by
            unfold mrefuse
            rw [← et]
            rw [if_neg (fun q => q e17), if_neg (by rw [h27]; decide), if_neg (fun q => q h43), if_pos (by omega)]
          rw [e] at h
          exact h
      · skip
        refine xi_bipush (v := (-6)) dX9_refusalOf_46 (by decide) ?_
        refine xi_iret (v := (-6)) dX9_refusalOf_48 rfl ?_
        have e : mrefuse G S0 now late A sq p (ub b) = (-6) := by
          unfold mrefuse
          rw [← et]
          rw [if_neg (fun q => q e17), if_neg (by rw [h27]; decide), if_pos h43]
        rw [e] at h
        exact h
    · skip
      refine xi_bipush (v := (-3)) dX9_refusalOf_30 (by decide) ?_
      refine xi_iret (v := (-3)) dX9_refusalOf_32 rfl ?_
      have e : mrefuse G S0 now late A sq p (ub b) = (-3) := by
        unfold mrefuse
        rw [← et]
        rw [if_neg (fun q => q e17), if_pos h27]
      rw [e] at h
      exact h
  · have e17 := of_decide_eq_false h17
    refine xi_bipush (v := (-5)) dX9_refusalOf_20 (by decide) ?_
    refine xi_iret (v := (-5)) dX9_refusalOf_22 rfl ?_
    have e : mrefuse G S0 now late A sq p (ub b) = (-5) := by
      unfold mrefuse
      rw [← et]
      rw [if_pos (fun q => e17 q)]
    rw [e] at h
    exact h

set_option maxHeartbeats 4000000 in
set_option maxRecDepth 100000 in
theorem o_lack {G : xG} {S0 : xS} {now late risk : Nat} {A : Nat → Nat} {L : Nat → Bool} {sq : Nat → Nat} {nl : Nat} {rf hr : Int32} {lg : xE2} {w : xw} {tp : Nat → xT} {M : xM} {Q : Option Value → xM → Prop} (hX : wX (G, S0, now, late, risk, A, L, sq, nl, rf, hr, lg, w, tp)) (hC : RepM (G, S0, now, late, risk, A, L, sq, nl, rf, hr, lg, w, tp) M) {p : Nat} {b : Int64} (hp : p < gP G) (h : Q (some (.int (mrefuse G S0 now late A sq p (ub b)))) M) : WP shM mX10_lack 0 [some (.ref 0), some (.int (nI p)), some (.long b), none, none, none, none, none, none, none] [] M Q := by
  obtain ⟨hW, hw0, wn, wl, wr, wA_, wsq, wnl, wmo, wtk, wwt, wtp, wO0, wB0⟩ := id hX
  obtain ⟨b1, b2, b3, b4, b5, b6, b7, b8, b9, wmap, wlink, wk0, wk1, b10, b11, wword⟩ := id hW
  have nb : nl ≤ 2000 := by rw [wnl]; exact mcnt_le 2000
  obtain ⟨hG, hNS, hNA, hNL, hNH, hNE, hNQ, hNW, hNT, hNM⟩ := id hC
  obtain ⟨hno, hla, hri, hnl, hrf, hhr⟩ := id hNM
  obtain ⟨s, es⟩ : ∃ s, s = 112 * now := ⟨_, rfl⟩
  have hs : s ≤ 56000 := by omega
  have hS : RM G (Zf G A S0 now) M s := by rw [es]; exact hNS.1 now (Nat.le_refl _)
  have hw : wS G (Zf G A S0 now) := wS_Zf hW hw0 now
  obtain ⟨t, et⟩ : ∃ t, t = ub b / 1024 % 65536 := ⟨_, rfl⟩
  have tb : t < 65536 := by rw [et]; exact Nat.mod_lt _ (by decide)
  have wsp := wsq p
  have mu : msumU (ub b) < 256 := Nat.mod_lt _ (by decide)
  have wA2 := wA_ (4 * t + p)
  refine xi_lload_n dX10_lack_0 rfl ?_
  refine xi_iconst (v := 0) dX10_lack_1 rfl ?_
  refine xi_iconst (v := 4) dX10_lack_2 rfl ?_
  refine xi_callS [.long b, .int 0, .int 4] [] dX10_lack_3 zX10_part mlX10_233 rfl rfl rfl (Nat.le_of_ble_eq_true rfl) (Nat.le_of_ble_eq_true rfl) ⟨by decide, by decide⟩ ?_
  refine o_p0 ?_
  rw [Nat.div_one]
  show WP _ _ 6 _ [.int (nI (ub b % 16))] _ _
  refine xi_istore (lv' := [some (.ref 0), some (.int (nI p)), some (.long b), none, some (.int (nI (ub b % 16))), none, none, none, none, none]) dX10_lack_6 (by decide) rfl ?_
  refine xi_lload_n dX10_lack_8 rfl ?_
  refine xi_iconst (v := 4) dX10_lack_9 rfl ?_
  refine xi_iconst (v := 2) dX10_lack_10 rfl ?_
  refine xi_callS [.long b, .int 4, .int 2] [] dX10_lack_11 zX10_part mlX10_233 rfl rfl rfl (Nat.le_of_ble_eq_true rfl) (Nat.le_of_ble_eq_true rfl) ⟨by decide, by decide⟩ ?_
  refine o_p4 ?_
  show WP _ _ 14 _ [.int (nI (ub b / 16 % 4))] _ _
  refine xi_istore (lv' := [some (.ref 0), some (.int (nI p)), some (.long b), none, some (.int (nI (ub b % 16))), some (.int (nI (ub b / 16 % 4))), none, none, none, none]) dX10_lack_14 (by decide) rfl ?_
  refine xi_lload_n dX10_lack_16 rfl ?_
  refine xi_bipush (v := 6) dX10_lack_17 (by decide) ?_
  refine xi_iconst (v := 4) dX10_lack_19 rfl ?_
  refine xi_callS [.long b, .int 6, .int 4] [] dX10_lack_20 zX10_part mlX10_233 rfl rfl rfl (Nat.le_of_ble_eq_true rfl) (Nat.le_of_ble_eq_true rfl) ⟨by decide, by decide⟩ ?_
  refine o_p6 ?_
  show WP _ _ 23 _ [.int (nI (ub b / 64 % 16))] _ _
  refine xi_istore (lv' := [some (.ref 0), some (.int (nI p)), some (.long b), none, some (.int (nI (ub b % 16))), some (.int (nI (ub b / 16 % 4))), some (.int (nI (ub b / 64 % 16))), none, none, none]) dX10_lack_23 (by decide) rfl ?_
  refine xi_lload_n dX10_lack_25 rfl ?_
  refine xi_bipush (v := 10) dX10_lack_26 (by decide) ?_
  refine xi_bipush (v := 16) dX10_lack_28 (by decide) ?_
  refine xi_callS [.long b, .int 10, .int 16] [] dX10_lack_30 zX10_part mlX10_233 rfl rfl rfl (Nat.le_of_ble_eq_true rfl) (Nat.le_of_ble_eq_true rfl) ⟨by decide, by decide⟩ ?_
  refine o_p10 ?_
  rw [← et]
  show WP _ _ 33 _ [.int (nI t)] _ _
  refine xi_istore (lv' := [some (.ref 0), some (.int (nI p)), some (.long b), none, some (.int (nI (ub b % 16))), some (.int (nI (ub b / 16 % 4))), some (.int (nI (ub b / 64 % 16))), some (.int (nI t)), none, none]) dX10_lack_33 (by decide) rfl ?_
  refine xi_lload_n dX10_lack_35 rfl ?_
  refine xi_bipush (v := 26) dX10_lack_36 (by decide) ?_
  refine xi_bipush (v := 8) dX10_lack_38 (by decide) ?_
  refine xi_callS [.long b, .int 26, .int 8] [] dX10_lack_40 zX10_part mlX10_233 rfl rfl rfl (Nat.le_of_ble_eq_true rfl) (Nat.le_of_ble_eq_true rfl) ⟨by decide, by decide⟩ ?_
  refine o_p26 ?_
  show WP _ _ 43 _ [.int (nI (ub b / 67108864 % 256))] _ _
  refine xi_istore (lv' := [some (.ref 0), some (.int (nI p)), some (.long b), none, some (.int (nI (ub b % 16))), some (.int (nI (ub b / 16 % 4))), some (.int (nI (ub b / 64 % 16))), some (.int (nI t)), some (.int (nI (ub b / 67108864 % 256))), none]) dX10_lack_43 (by decide) rfl ?_
  refine xi_lload_n dX10_lack_45 rfl ?_
  refine xi_bipush (v := 42) dX10_lack_46 (by decide) ?_
  refine xi_lshr dX10_lack_48 ?_
  refine xi_lconst (v := 0) dX10_lack_49 rfl ?_
  refine xi_lcmp dX10_lack_50 ?_
  refine xi_if_ne 93 dX10_lack_51 (by decide) (fun h51 => ?_) (fun h51 => ?_)
  · skip
    refine xi_bipush (v := (-5)) dX10_lack_93 (by decide) ?_
    refine xi_iret (v := (-5)) dX10_lack_95 rfl ?_
    have e17 : ¬ ub b / 17179869184 = msumU (ub b) := by first | omega | (intro z; exact h51 ((lg_cmp_eq _ _).mpr ((ub_42 b).mpr (by omega))))
    have e : mrefuse G S0 now late A sq p (ub b) = (-5) := by
      unfold mrefuse
      rw [← et]
      rw [if_pos (fun q => e17 q)]
    rw [e] at h
    exact h
  · skip
    refine xi_lload_n dX10_lack_54 rfl ?_
    refine xi_bipush (v := 34) dX10_lack_55 (by decide) ?_
    refine xi_bipush (v := 8) dX10_lack_57 (by decide) ?_
    refine xi_callS [.long b, .int 34, .int 8] [] dX10_lack_59 zX10_part mlX10_233 rfl rfl rfl (Nat.le_of_ble_eq_true rfl) (Nat.le_of_ble_eq_true rfl) ⟨by decide, by decide⟩ ?_
    refine o_p34 ?_
    show WP _ _ 62 _ [.int (nI (ub b / 17179869184 % 256))] _ _
    refine xi_iload dX10_lack_62 rfl ?_
    refine xi_iconst (v := 3) dX10_lack_64 rfl ?_
    refine xi_iload dX10_lack_65 rfl ?_
    refine xe_imul dX10_lack_67 (v := nI (3 * (ub b / 16 % 4))) (pk_mul 3 (ub b / 16 % 4)) ?_
    refine xe_iadd dX10_lack_68 (v := nI (ub b % 16 + (3 * (ub b / 16 % 4)))) (nI_add (ub b % 16) (3 * (ub b / 16 % 4))) ?_
    refine xi_iconst (v := 5) dX10_lack_69 rfl ?_
    refine xi_iload dX10_lack_70 rfl ?_
    refine xe_imul dX10_lack_72 (v := nI (5 * (ub b / 64 % 16))) (pk_mul 5 (ub b / 64 % 16)) ?_
    refine xe_iadd dX10_lack_73 (v := nI (ub b % 16 + (3 * (ub b / 16 % 4)) + (5 * (ub b / 64 % 16)))) (nI_add (ub b % 16 + (3 * (ub b / 16 % 4))) (5 * (ub b / 64 % 16))) ?_
    refine xi_bipush (v := 7) dX10_lack_74 (by decide) ?_
    refine xi_iload dX10_lack_76 rfl ?_
    refine xat 78 rfl ?_
    refine xe_imul dX10_lack_78 (v := nI (7 * t)) (pk_mul 7 t) ?_
    refine xe_iadd dX10_lack_79 (v := nI (ub b % 16 + (3 * (ub b / 16 % 4)) + (5 * (ub b / 64 % 16)) + (7 * t))) (nI_add (ub b % 16 + (3 * (ub b / 16 % 4)) + (5 * (ub b / 64 % 16))) (7 * t)) ?_
    refine xi_bipush (v := 11) dX10_lack_80 (by decide) ?_
    refine xi_iload dX10_lack_82 rfl ?_
    refine xe_imul dX10_lack_84 (v := nI (11 * (ub b / 67108864 % 256))) (pk_mul 11 (ub b / 67108864 % 256)) ?_
    refine xe_iadd dX10_lack_85 (v := nI (ub b % 16 + (3 * (ub b / 16 % 4)) + (5 * (ub b / 64 % 16)) + (7 * t) + (11 * (ub b / 67108864 % 256)))) (nI_add (ub b % 16 + (3 * (ub b / 16 % 4)) + (5 * (ub b / 64 % 16)) + (7 * t)) (11 * (ub b / 67108864 % 256))) ?_
    refine xi_sipush (v := 255) dX10_lack_86 (by decide) ?_
    refine xe_iand dX10_lack_89 (v := nI (msumU (ub b))) ((pk_andN (by omega) 8 (by decide)).trans (congrArg nI (by unfold msumU msum; rw [← et]))) ?_
    refine xn_icmp_eq (ub b / 17179869184 % 256) (msumU (ub b)) 96 dX10_lack_90 (by decide) rfl rfl (by omega) (by omega) (fun h90 => ?_) (fun h90 => ?_)
    · skip
      refine xi_iload dX10_lack_96 rfl ?_
      refine xi_bipush (v := 6) dX10_lack_98 (by decide) ?_
      refine xn_icmp_gt (ub b % 16) 6 136 dX10_lack_100 (by decide) rfl rfl (by omega) (by omega) (fun h100 => ?_) (fun h100 => ?_)
      · skip
        refine xi_bipush (v := (-3)) dX10_lack_136 (by decide) ?_
        refine xi_iret (v := (-3)) dX10_lack_138 rfl ?_
        have z42 := (ub_42 b).mp ((lg_cmp_eq _ _).mp h51)
        have e17 : ub b / 17179869184 = msumU (ub b) := by omega
        have h27 : mokU (ub b) = false := by unfold mokU mok; simp; omega
        have e : mrefuse G S0 now late A sq p (ub b) = (-3) := by
          unfold mrefuse
          rw [← et]
          rw [if_neg (fun q => q e17), if_pos h27]
        rw [e] at h
        exact h
      · skip
        refine xi_iload dX10_lack_103 rfl ?_
        refine xn_if_eq (ub b / 64 % 16) 114 dX10_lack_105 (by decide) rfl (by omega) (fun h105 => ?_) (fun h105 => ?_)
        · skip
          refine xi_iload dX10_lack_114 rfl ?_
          refine xn_if_eq (ub b / 16 % 4) 139 dX10_lack_116 (by decide) rfl (by omega) (fun h116 => ?_) (fun h116 => ?_)
          · skip
            refine xi_iload dX10_lack_139 rfl ?_
            refine xi_aload_n dX10_lack_141 rfl ?_
            refine xi_getR dX10_lack_142 fgX10_52 mm0 rfl ?_
            refine xi_iload_n dX10_lack_145 rfl ?_
            refine xe_iald (v := nI (sq p)) p dX10_lack_146 mm9 (by decide) rfl (by omega) (hNQ p (by omega)) ?_
            refine xn_icmp_eq (ub b / 67108864 % 256) (sq p) 153 dX10_lack_147 (by decide) rfl rfl (by omega) (by omega) (fun h147 => ?_) (fun h147 => ?_)
            · skip
              refine xi_iload dX10_lack_153 rfl ?_
              refine xi_aload_n dX10_lack_155 rfl ?_
              refine xe_getI (v := nI now) dX10_lack_156 fgX10_110 mm0 rfl hno ?_
              refine xi_aload_n dX10_lack_159 rfl ?_
              refine xe_getI (v := nI late) dX10_lack_160 fgX10_32 mm0 rfl hla ?_
              refine xi_isub dX10_lack_163 ?_
              refine xs_icmp_ge t now late 170 dX10_lack_164 (by decide) rfl rfl (by omega) (by omega) (by omega) (fun h164 => ?_) (fun h164 => ?_)
              · skip
                refine xi_iload dX10_lack_170 rfl ?_
                refine xi_aload_n dX10_lack_172 rfl ?_
                refine xe_getI (v := nI now) dX10_lack_173 fgX10_110 mm0 rfl hno ?_
                refine xi_iconst (v := 2) dX10_lack_176 rfl ?_
                refine xe_iadd dX10_lack_177 (v := nI (now + 2)) (nI_add now 2) ?_
                refine xn_icmp_gt t (now + 2) 189 dX10_lack_178 (by decide) rfl rfl (by omega) (by omega) (fun h178 => ?_) (fun h178 => ?_)
                · skip
                  refine xi_bipush (v := (-8)) dX10_lack_189 (by decide) ?_
                  refine xi_iret (v := (-8)) dX10_lack_191 rfl ?_
                  have z42 := (ub_42 b).mp ((lg_cmp_eq _ _).mp h51)
                  have e17 : ub b / 17179869184 = msumU (ub b) := by omega
                  have h27 : mokU (ub b) = true := by unfold mokU mok; simp; omega
                  have e : mrefuse G S0 now late A sq p (ub b) = (-8) := by
                    unfold mrefuse
                    rw [← et]
                    rw [if_neg (fun q => q e17), if_neg (by rw [h27]; decide), if_neg (fun q => q h147), if_neg (by omega), if_pos (by omega)]
                  rw [e] at h
                  exact h
                · skip
                  refine xi_iload dX10_lack_181 rfl ?_
                  refine xi_sipush (v := 499) dX10_lack_183 (by decide) ?_
                  refine xn_icmp_le t 499 192 dX10_lack_186 (by decide) rfl rfl (by omega) (by omega) (fun h186 => ?_) (fun h186 => ?_)
                  · skip
                    refine xi_aload_n dX10_lack_192 rfl ?_
                    refine xi_getR dX10_lack_193 fgX10_42 mm0 rfl ?_
                    refine xi_iconst (v := 4) dX10_lack_196 rfl ?_
                    refine xi_iload dX10_lack_197 rfl ?_
                    refine xe_imul dX10_lack_199 (v := nI (4 * t)) (pk_mul 4 t) ?_
                    refine xi_iload_n dX10_lack_200 rfl ?_
                    refine xe_iadd dX10_lack_201 (v := nI (4 * t + p)) (nI_add (4 * t) p) ?_
                    refine xe_iald (v := nI (A (4 * t + p))) (4 * t + p) dX10_lack_202 mm6 (by decide) rfl (by omega) (hNA (4 * t + p) (by omega)) ?_
                    refine xi_sipush (v := 4096) dX10_lack_203 (by decide) ?_
                    refine xn_icmp_eq (A (4 * t + p)) 4096 212 dX10_lack_206 (by decide) rfl rfl (by omega) (by omega) (fun h206 => ?_) (fun h206 => ?_)
                    · have e107 : A (4 * t + p) = 4096 := h206
                      refine xi_bipush (v := 112) dX10_lack_212 (by decide) ?_
                      refine xi_iload dX10_lack_214 rfl ?_
                      refine xi_aload_n dX10_lack_216 rfl ?_
                      refine xe_getI (v := nI now) dX10_lack_217 fgX10_110 mm0 rfl hno ?_
                      refine xn_icmp_ge t now 228 dX10_lack_220 (by decide) rfl rfl (by omega) (by omega) (fun h220 => ?_) (fun h220 => ?_)
                      · skip
                        refine xi_aload_n dX10_lack_228 rfl ?_
                        refine xe_getI (v := nI now) dX10_lack_229 fgX10_110 mm0 rfl hno ?_
                        obtain ⟨sk, esk⟩ : ∃ sk, sk = 112 * now := ⟨_, rfl⟩
                        have hSk : RM G (Zf G A S0 now) M sk := by rw [esk]; exact hNS.1 now (by omega)
                        have hwk : wS G (Zf G A S0 now) := wS_Zf hW hw0 now
                        have em : Zf G A S0 (min t now) = Zf G A S0 now := by rw [show min t now = now by omega]
                        have hskb : sk ≤ 56000 := by omega
                        refine xe_imul dX10_lack_232 (v := nI sk) ((pk_mul 112 now).trans (congrArg nI esk.symm)) ?_
                        refine xi_bipush (v := 6) dX10_lack_233 (by decide) ?_
                        refine xi_iload_n dX10_lack_235 rfl ?_
                        refine xe_imul dX10_lack_236 (v := nI (6 * p)) (pk_mul 6 p) ?_
                        refine xe_iadd dX10_lack_237 (v := nI (sk + (6 * p))) (nI_add sk (6 * p)) ?_
                        refine xi_istore (lv' := [some (.ref 0), some (.int (nI p)), some (.long b), none, some (.int (nI (ub b % 16))), some (.int (nI (ub b / 16 % 4))), some (.int (nI (ub b / 64 % 16))), some (.int (nI t)), some (.int (nI (ub b / 67108864 % 256))), some (.int (nI (sk + (6 * p))))]) dX10_lack_238 (by decide) rfl ?_
                        refine xi_aload_n dX10_lack_240 rfl ?_
                        refine xi_getR dX10_lack_241 fgX10_39 mm0 rfl ?_
                        refine xi_iload dX10_lack_244 rfl ?_
                        refine xat 246 rfl ?_
                        refine xi_iconst (v := 1) dX10_lack_246 rfl ?_
                        refine xe_iadd dX10_lack_247 (v := nI (sk + (6 * p) + 1)) (nI_add (sk + (6 * p)) 1) ?_
                        have lq := hwk.2.1 p (by omega)
                        refine xe_iald (v := nI (sL (Zf G A S0 now) p)) (sk + (6 * p) + 1) dX10_lack_248 mm5 (by decide) rfl (by omega) (rmL hSk (by omega)) ?_
                        refine xn_if_ne (sL (Zf G A S0 now) p) 255 dX10_lack_249 (by decide) rfl (by omega) (fun h249 => ?_) (fun h249 => ?_)
                        · skip
                          refine xi_iload dX10_lack_255 rfl ?_
                          refine xi_aload_n dX10_lack_257 rfl ?_
                          refine xe_getI (v := nI now) dX10_lack_258 fgX10_110 mm0 rfl hno ?_
                          refine xn_icmp_gt t now 286 dX10_lack_261 (by decide) rfl rfl (by omega) (by omega) (fun h261 => ?_) (fun h261 => ?_)
                          · skip
                            refine xi_iconst (v := 0) dX10_lack_286 rfl ?_
                            refine xi_iret (v := 0) dX10_lack_287 rfl ?_
                            have n8 : ¬ (t ≤ now ∧ mforb G (Zf G A S0 t) p (ub b % 1024) = true) := fun q => by first | omega | (have q2 := q.2; rw [h278] at q2; cases q2)
                            have z42 := (ub_42 b).mp ((lg_cmp_eq _ _).mp h51)
                            have e17 : ub b / 17179869184 = msumU (ub b) := by omega
                            have h27 : mokU (ub b) = true := by unfold mokU mok; simp; omega
                            have e : mrefuse G S0 now late A sq p (ub b) = 0 := by
                              unfold mrefuse
                              rw [← et]
                              rw [if_neg (fun q => q e17), if_neg (by rw [h27]; decide), if_neg (fun q => q h147), if_neg (by omega), if_neg (by omega), if_neg (fun q => q e107), if_neg (by rw [em]; omega), if_neg (fun q => n8 q)]
                            rw [e] at h
                            exact h
                          · skip
                            refine xi_aload_n dX10_lack_264 rfl ?_
                            refine xi_bipush (v := 112) dX10_lack_265 (by decide) ?_
                            refine xi_iload dX10_lack_267 rfl ?_
                            refine xe_imul dX10_lack_269 (v := nI (112 * t)) (pk_mul 112 t) ?_
                            refine xi_iload_n dX10_lack_270 rfl ?_
                            refine xi_iload dX10_lack_271 rfl ?_
                            refine xi_iload dX10_lack_273 rfl ?_
                            refine xi_callV [.int (nI (112 * t)), .int (nI p), .int (nI (ub b % 16)), .int (nI (ub b / 16 % 4))] [] dX10_lack_275 zX10_isCrafted mlX10_237 mm0 rfl rfl rfl rfl rfl (Nat.le_of_ble_eq_true rfl) (Nat.le_of_ble_eq_true rfl) ⟨by decide, by decide⟩ ?_
                            refine n_craft2 hW hG (s := 112 * t) (by omega) (hNS.1 t (by omega)) (wS_Zf hW hw0 t) (p := p) (c := ub b % 1024) (by omega) (by omega) (ub_mod _).1.symm (ub_mod _).2.1.symm ?_
                            show WP _ _ 278 _ [.int (xb (mforb G (Zf G A S0 t) p (ub b % 1024)))] _ _
                            refine xb_if_eq (mforb G (Zf G A S0 t) p (ub b % 1024)) 286 dX10_lack_278 (by decide) rfl (fun h278 => ?_) (fun h278 => ?_)
                            · skip
                              refine xi_iconst (v := 0) dX10_lack_286 rfl ?_
                              refine xi_iret (v := 0) dX10_lack_287 rfl ?_
                              have n8 : ¬ (t ≤ now ∧ mforb G (Zf G A S0 t) p (ub b % 1024) = true) := fun q => by first | omega | (have q2 := q.2; rw [h278] at q2; cases q2)
                              have z42 := (ub_42 b).mp ((lg_cmp_eq _ _).mp h51)
                              have e17 : ub b / 17179869184 = msumU (ub b) := by omega
                              have h27 : mokU (ub b) = true := by unfold mokU mok; simp; omega
                              have e : mrefuse G S0 now late A sq p (ub b) = 0 := by
                                unfold mrefuse
                                rw [← et]
                                rw [if_neg (fun q => q e17), if_neg (by rw [h27]; decide), if_neg (fun q => q h147), if_neg (by omega), if_neg (by omega), if_neg (fun q => q e107), if_neg (by rw [em]; omega), if_neg (fun q => n8 q)]
                              rw [e] at h
                              exact h
                            · skip
                              refine xi_bipush (v := (-16)) dX10_lack_281 (by decide) ?_
                              refine xi_goto 287 dX10_lack_283 (by decide) ?_
                              refine xi_iret (v := (-16)) dX10_lack_287 rfl ?_
                              have z42 := (ub_42 b).mp ((lg_cmp_eq _ _).mp h51)
                              have e17 : ub b / 17179869184 = msumU (ub b) := by omega
                              have h27 : mokU (ub b) = true := by unfold mokU mok; simp; omega
                              have e : mrefuse G S0 now late A sq p (ub b) = (-16) := by
                                unfold mrefuse
                                rw [← et]
                                rw [if_neg (fun q => q e17), if_neg (by rw [h27]; decide), if_neg (fun q => q h147), if_neg (by omega), if_neg (by omega), if_neg (fun q => q e107), if_neg (by rw [em]; omega), if_pos ⟨by omega, h278⟩]
                              rw [e] at h
                              exact h
                        · skip
                          refine xi_bipush (v := (-10)) dX10_lack_252 (by decide) ?_
                          refine xi_iret (v := (-10)) dX10_lack_254 rfl ?_
                          have z42 := (ub_42 b).mp ((lg_cmp_eq _ _).mp h51)
                          have e17 : ub b / 17179869184 = msumU (ub b) := by omega
                          have h27 : mokU (ub b) = true := by unfold mokU mok; simp; omega
                          have e : mrefuse G S0 now late A sq p (ub b) = (-10) := by
                            unfold mrefuse
                            rw [← et]
                            rw [if_neg (fun q => q e17), if_neg (by rw [h27]; decide), if_neg (fun q => q h147), if_neg (by omega), if_neg (by omega), if_neg (fun q => q e107), if_pos (by rw [em]; omega)]
                          rw [e] at h
                          exact h
                      · skip
                        refine xi_iload dX10_lack_223 rfl ?_
                        refine xi_goto 232 dX10_lack_225 (by decide) ?_
                        obtain ⟨sk, esk⟩ : ∃ sk, sk = 112 * t := ⟨_, rfl⟩
                        have hSk : RM G (Zf G A S0 t) M sk := by rw [esk]; exact hNS.1 t (by omega)
                        have hwk : wS G (Zf G A S0 t) := wS_Zf hW hw0 t
                        have em : Zf G A S0 (min t now) = Zf G A S0 t := by rw [show min t now = t by omega]
                        have hskb : sk ≤ 56000 := by omega
                        refine xe_imul dX10_lack_232 (v := nI sk) ((pk_mul 112 t).trans (congrArg nI esk.symm)) ?_
                        refine xi_bipush (v := 6) dX10_lack_233 (by decide) ?_
                        refine xi_iload_n dX10_lack_235 rfl ?_
                        refine xe_imul dX10_lack_236 (v := nI (6 * p)) (pk_mul 6 p) ?_
                        refine xe_iadd dX10_lack_237 (v := nI (sk + (6 * p))) (nI_add sk (6 * p)) ?_
                        refine xi_istore (lv' := [some (.ref 0), some (.int (nI p)), some (.long b), none, some (.int (nI (ub b % 16))), some (.int (nI (ub b / 16 % 4))), some (.int (nI (ub b / 64 % 16))), some (.int (nI t)), some (.int (nI (ub b / 67108864 % 256))), some (.int (nI (sk + (6 * p))))]) dX10_lack_238 (by decide) rfl ?_
                        refine xi_aload_n dX10_lack_240 rfl ?_
                        refine xi_getR dX10_lack_241 fgX10_39 mm0 rfl ?_
                        refine xi_iload dX10_lack_244 rfl ?_
                        refine xi_iconst (v := 1) dX10_lack_246 rfl ?_
                        refine xe_iadd dX10_lack_247 (v := nI (sk + (6 * p) + 1)) (nI_add (sk + (6 * p)) 1) ?_
                        refine xat 248 rfl ?_
                        have lq := hwk.2.1 p (by omega)
                        refine xe_iald (v := nI (sL (Zf G A S0 t) p)) (sk + (6 * p) + 1) dX10_lack_248 mm5 (by decide) rfl (by omega) (rmL hSk (by omega)) ?_
                        refine xn_if_ne (sL (Zf G A S0 t) p) 255 dX10_lack_249 (by decide) rfl (by omega) (fun h249 => ?_) (fun h249 => ?_)
                        · skip
                          refine xi_iload dX10_lack_255 rfl ?_
                          refine xi_aload_n dX10_lack_257 rfl ?_
                          refine xe_getI (v := nI now) dX10_lack_258 fgX10_110 mm0 rfl hno ?_
                          refine xn_icmp_gt t now 286 dX10_lack_261 (by decide) rfl rfl (by omega) (by omega) (fun h261 => ?_) (fun h261 => ?_)
                          · skip
                            refine xi_iconst (v := 0) dX10_lack_286 rfl ?_
                            refine xi_iret (v := 0) dX10_lack_287 rfl ?_
                            have n8 : ¬ (t ≤ now ∧ mforb G (Zf G A S0 t) p (ub b % 1024) = true) := fun q => by first | omega | (have q2 := q.2; rw [h278] at q2; cases q2)
                            have z42 := (ub_42 b).mp ((lg_cmp_eq _ _).mp h51)
                            have e17 : ub b / 17179869184 = msumU (ub b) := by omega
                            have h27 : mokU (ub b) = true := by unfold mokU mok; simp; omega
                            have e : mrefuse G S0 now late A sq p (ub b) = 0 := by
                              unfold mrefuse
                              rw [← et]
                              rw [if_neg (fun q => q e17), if_neg (by rw [h27]; decide), if_neg (fun q => q h147), if_neg (by omega), if_neg (by omega), if_neg (fun q => q e107), if_neg (by rw [em]; omega), if_neg (fun q => n8 q)]
                            rw [e] at h
                            exact h
                          · skip
                            refine xi_aload_n dX10_lack_264 rfl ?_
                            refine xi_bipush (v := 112) dX10_lack_265 (by decide) ?_
                            refine xi_iload dX10_lack_267 rfl ?_
                            refine xe_imul dX10_lack_269 (v := nI (112 * t)) (pk_mul 112 t) ?_
                            refine xi_iload_n dX10_lack_270 rfl ?_
                            refine xi_iload dX10_lack_271 rfl ?_
                            refine xi_iload dX10_lack_273 rfl ?_
                            refine xi_callV [.int (nI (112 * t)), .int (nI p), .int (nI (ub b % 16)), .int (nI (ub b / 16 % 4))] [] dX10_lack_275 zX10_isCrafted mlX10_237 mm0 rfl rfl rfl rfl rfl (Nat.le_of_ble_eq_true rfl) (Nat.le_of_ble_eq_true rfl) ⟨by decide, by decide⟩ ?_
                            refine n_craft2 hW hG (s := 112 * t) (by omega) (hNS.1 t (by omega)) (wS_Zf hW hw0 t) (p := p) (c := ub b % 1024) (by omega) (by omega) (ub_mod _).1.symm (ub_mod _).2.1.symm ?_
                            show WP _ _ 278 _ [.int (xb (mforb G (Zf G A S0 t) p (ub b % 1024)))] _ _
                            refine xb_if_eq (mforb G (Zf G A S0 t) p (ub b % 1024)) 286 dX10_lack_278 (by decide) rfl (fun h278 => ?_) (fun h278 => ?_)
                            · skip
                              refine xi_iconst (v := 0) dX10_lack_286 rfl ?_
                              refine xi_iret (v := 0) dX10_lack_287 rfl ?_
                              have n8 : ¬ (t ≤ now ∧ mforb G (Zf G A S0 t) p (ub b % 1024) = true) := fun q => by first | omega | (have q2 := q.2; rw [h278] at q2; cases q2)
                              have z42 := (ub_42 b).mp ((lg_cmp_eq _ _).mp h51)
                              have e17 : ub b / 17179869184 = msumU (ub b) := by omega
                              have h27 : mokU (ub b) = true := by unfold mokU mok; simp; omega
                              have e : mrefuse G S0 now late A sq p (ub b) = 0 := by
                                unfold mrefuse
                                rw [← et]
                                rw [if_neg (fun q => q e17), if_neg (by rw [h27]; decide), if_neg (fun q => q h147), if_neg (by omega), if_neg (by omega), if_neg (fun q => q e107), if_neg (by rw [em]; omega), if_neg (fun q => n8 q)]
                              rw [e] at h
                              exact h
                            · skip
                              refine xi_bipush (v := (-16)) dX10_lack_281 (by decide) ?_
                              refine xi_goto 287 dX10_lack_283 (by decide) ?_
                              refine xi_iret (v := (-16)) dX10_lack_287 rfl ?_
                              have z42 := (ub_42 b).mp ((lg_cmp_eq _ _).mp h51)
                              have e17 : ub b / 17179869184 = msumU (ub b) := by omega
                              have h27 : mokU (ub b) = true := by unfold mokU mok; simp; omega
                              have e : mrefuse G S0 now late A sq p (ub b) = (-16) := by
                                unfold mrefuse
                                rw [← et]
                                rw [if_neg (fun q => q e17), if_neg (by rw [h27]; decide), if_neg (fun q => q h147), if_neg (by omega), if_neg (by omega), if_neg (fun q => q e107), if_neg (by rw [em]; omega), if_pos ⟨by omega, h278⟩]
                              rw [e] at h
                              exact h
                        · skip
                          refine xi_bipush (v := (-10)) dX10_lack_252 (by decide) ?_
                          refine xi_iret (v := (-10)) dX10_lack_254 rfl ?_
                          have z42 := (ub_42 b).mp ((lg_cmp_eq _ _).mp h51)
                          have e17 : ub b / 17179869184 = msumU (ub b) := by omega
                          have h27 : mokU (ub b) = true := by unfold mokU mok; simp; omega
                          have e : mrefuse G S0 now late A sq p (ub b) = (-10) := by
                            unfold mrefuse
                            rw [← et]
                            rw [if_neg (fun q => q e17), if_neg (by rw [h27]; decide), if_neg (fun q => q h147), if_neg (by omega), if_neg (by omega), if_neg (fun q => q e107), if_pos (by rw [em]; omega)]
                          rw [e] at h
                          exact h
                    · have e107 : ¬ A (4 * t + p) = 4096 := h206
                      refine xi_bipush (v := (-9)) dX10_lack_209 (by decide) ?_
                      refine xi_iret (v := (-9)) dX10_lack_211 rfl ?_
                      have z42 := (ub_42 b).mp ((lg_cmp_eq _ _).mp h51)
                      have e17 : ub b / 17179869184 = msumU (ub b) := by omega
                      have h27 : mokU (ub b) = true := by unfold mokU mok; simp; omega
                      have e : mrefuse G S0 now late A sq p (ub b) = (-9) := by
                        unfold mrefuse
                        rw [← et]
                        rw [if_neg (fun q => q e17), if_neg (by rw [h27]; decide), if_neg (fun q => q h147), if_neg (by omega), if_neg (by omega), if_pos (fun q => e107 q)]
                      rw [e] at h
                      exact h
                  · skip
                    refine xi_bipush (v := (-8)) dX10_lack_189 (by decide) ?_
                    refine xi_iret (v := (-8)) dX10_lack_191 rfl ?_
                    have z42 := (ub_42 b).mp ((lg_cmp_eq _ _).mp h51)
                    have e17 : ub b / 17179869184 = msumU (ub b) := by omega
                    have h27 : mokU (ub b) = true := by unfold mokU mok; simp; omega
                    have e : mrefuse G S0 now late A sq p (ub b) = (-8) := by
                      unfold mrefuse
                      rw [← et]
                      rw [if_neg (fun q => q e17), if_neg (by rw [h27]; decide), if_neg (fun q => q h147), if_neg (by omega), if_pos (by omega)]
                    rw [e] at h
                    exact h
              · skip
                refine xi_bipush (v := (-7)) dX10_lack_167 (by decide) ?_
                refine xi_iret (v := (-7)) dX10_lack_169 rfl ?_
                have z42 := (ub_42 b).mp ((lg_cmp_eq _ _).mp h51)
                have e17 : ub b / 17179869184 = msumU (ub b) := by omega
                have h27 : mokU (ub b) = true := by unfold mokU mok; simp; omega
                have e : mrefuse G S0 now late A sq p (ub b) = (-7) := by
                  unfold mrefuse
                  rw [← et]
                  rw [if_neg (fun q => q e17), if_neg (by rw [h27]; decide), if_neg (fun q => q h147), if_pos (by omega)]
                rw [e] at h
                exact h
            · skip
              refine xi_bipush (v := (-6)) dX10_lack_150 (by decide) ?_
              refine xi_iret (v := (-6)) dX10_lack_152 rfl ?_
              have z42 := (ub_42 b).mp ((lg_cmp_eq _ _).mp h51)
              have e17 : ub b / 17179869184 = msumU (ub b) := by omega
              have h27 : mokU (ub b) = true := by unfold mokU mok; simp; omega
              have e : mrefuse G S0 now late A sq p (ub b) = (-6) := by
                unfold mrefuse
                rw [← et]
                rw [if_neg (fun q => q e17), if_neg (by rw [h27]; decide), if_pos h147]
              rw [e] at h
              exact h
          · skip
            refine xi_iload dX10_lack_119 rfl ?_
            refine xn_if_eq (ub b % 16) 136 dX10_lack_121 (by decide) rfl (by omega) (fun h121 => ?_) (fun h121 => ?_)
            · skip
              refine xi_bipush (v := (-3)) dX10_lack_136 (by decide) ?_
              refine xi_iret (v := (-3)) dX10_lack_138 rfl ?_
              have z42 := (ub_42 b).mp ((lg_cmp_eq _ _).mp h51)
              have e17 : ub b / 17179869184 = msumU (ub b) := by omega
              have h27 : mokU (ub b) = false := by unfold mokU mok; simp; omega
              have e : mrefuse G S0 now late A sq p (ub b) = (-3) := by
                unfold mrefuse
                rw [← et]
                rw [if_neg (fun q => q e17), if_pos h27]
              rw [e] at h
              exact h
            · skip
              refine xi_iload dX10_lack_124 rfl ?_
              refine xi_iconst (v := 4) dX10_lack_126 rfl ?_
              refine xn_icmp_eq (ub b % 16) 4 136 dX10_lack_127 (by decide) rfl rfl (by omega) (by omega) (fun h127 => ?_) (fun h127 => ?_)
              · skip
                refine xi_bipush (v := (-3)) dX10_lack_136 (by decide) ?_
                refine xi_iret (v := (-3)) dX10_lack_138 rfl ?_
                have z42 := (ub_42 b).mp ((lg_cmp_eq _ _).mp h51)
                have e17 : ub b / 17179869184 = msumU (ub b) := by omega
                have h27 : mokU (ub b) = false := by unfold mokU mok; simp; omega
                have e : mrefuse G S0 now late A sq p (ub b) = (-3) := by
                  unfold mrefuse
                  rw [← et]
                  rw [if_neg (fun q => q e17), if_pos h27]
                rw [e] at h
                exact h
              · skip
                refine xi_iload dX10_lack_130 rfl ?_
                refine xi_iconst (v := 5) dX10_lack_132 rfl ?_
                refine xn_icmp_ne (ub b % 16) 5 139 dX10_lack_133 (by decide) rfl rfl (by omega) (by omega) (fun h133 => ?_) (fun h133 => ?_)
                · skip
                  refine xi_iload dX10_lack_139 rfl ?_
                  refine xi_aload_n dX10_lack_141 rfl ?_
                  refine xi_getR dX10_lack_142 fgX10_52 mm0 rfl ?_
                  refine xi_iload_n dX10_lack_145 rfl ?_
                  refine xe_iald (v := nI (sq p)) p dX10_lack_146 mm9 (by decide) rfl (by omega) (hNQ p (by omega)) ?_
                  refine xn_icmp_eq (ub b / 67108864 % 256) (sq p) 153 dX10_lack_147 (by decide) rfl rfl (by omega) (by omega) (fun h147 => ?_) (fun h147 => ?_)
                  · skip
                    refine xi_iload dX10_lack_153 rfl ?_
                    refine xi_aload_n dX10_lack_155 rfl ?_
                    refine xe_getI (v := nI now) dX10_lack_156 fgX10_110 mm0 rfl hno ?_
                    refine xi_aload_n dX10_lack_159 rfl ?_
                    refine xe_getI (v := nI late) dX10_lack_160 fgX10_32 mm0 rfl hla ?_
                    refine xi_isub dX10_lack_163 ?_
                    refine xs_icmp_ge t now late 170 dX10_lack_164 (by decide) rfl rfl (by omega) (by omega) (by omega) (fun h164 => ?_) (fun h164 => ?_)
                    · skip
                      refine xi_iload dX10_lack_170 rfl ?_
                      refine xi_aload_n dX10_lack_172 rfl ?_
                      refine xe_getI (v := nI now) dX10_lack_173 fgX10_110 mm0 rfl hno ?_
                      refine xi_iconst (v := 2) dX10_lack_176 rfl ?_
                      refine xe_iadd dX10_lack_177 (v := nI (now + 2)) (nI_add now 2) ?_
                      refine xn_icmp_gt t (now + 2) 189 dX10_lack_178 (by decide) rfl rfl (by omega) (by omega) (fun h178 => ?_) (fun h178 => ?_)
                      · skip
                        refine xi_bipush (v := (-8)) dX10_lack_189 (by decide) ?_
                        refine xi_iret (v := (-8)) dX10_lack_191 rfl ?_
                        have z42 := (ub_42 b).mp ((lg_cmp_eq _ _).mp h51)
                        have e17 : ub b / 17179869184 = msumU (ub b) := by omega
                        have h27 : mokU (ub b) = true := by unfold mokU mok; simp; omega
                        have e : mrefuse G S0 now late A sq p (ub b) = (-8) := by
                          unfold mrefuse
                          rw [← et]
                          rw [if_neg (fun q => q e17), if_neg (by rw [h27]; decide), if_neg (fun q => q h147), if_neg (by omega), if_pos (by omega)]
                        rw [e] at h
                        exact h
                      · skip
                        refine xi_iload dX10_lack_181 rfl ?_
                        refine xi_sipush (v := 499) dX10_lack_183 (by decide) ?_
                        refine xn_icmp_le t 499 192 dX10_lack_186 (by decide) rfl rfl (by omega) (by omega) (fun h186 => ?_) (fun h186 => ?_)
                        · skip
                          refine xi_aload_n dX10_lack_192 rfl ?_
                          refine xi_getR dX10_lack_193 fgX10_42 mm0 rfl ?_
                          refine xi_iconst (v := 4) dX10_lack_196 rfl ?_
                          refine xi_iload dX10_lack_197 rfl ?_
                          refine xe_imul dX10_lack_199 (v := nI (4 * t)) (pk_mul 4 t) ?_
                          refine xi_iload_n dX10_lack_200 rfl ?_
                          refine xe_iadd dX10_lack_201 (v := nI (4 * t + p)) (nI_add (4 * t) p) ?_
                          refine xe_iald (v := nI (A (4 * t + p))) (4 * t + p) dX10_lack_202 mm6 (by decide) rfl (by omega) (hNA (4 * t + p) (by omega)) ?_
                          refine xi_sipush (v := 4096) dX10_lack_203 (by decide) ?_
                          refine xn_icmp_eq (A (4 * t + p)) 4096 212 dX10_lack_206 (by decide) rfl rfl (by omega) (by omega) (fun h206 => ?_) (fun h206 => ?_)
                          · have e107 : A (4 * t + p) = 4096 := h206
                            refine xi_bipush (v := 112) dX10_lack_212 (by decide) ?_
                            refine xi_iload dX10_lack_214 rfl ?_
                            refine xi_aload_n dX10_lack_216 rfl ?_
                            refine xe_getI (v := nI now) dX10_lack_217 fgX10_110 mm0 rfl hno ?_
                            refine xn_icmp_ge t now 228 dX10_lack_220 (by decide) rfl rfl (by omega) (by omega) (fun h220 => ?_) (fun h220 => ?_)
                            · skip
                              refine xi_aload_n dX10_lack_228 rfl ?_
                              refine xe_getI (v := nI now) dX10_lack_229 fgX10_110 mm0 rfl hno ?_
                              obtain ⟨sk, esk⟩ : ∃ sk, sk = 112 * now := ⟨_, rfl⟩
                              have hSk : RM G (Zf G A S0 now) M sk := by rw [esk]; exact hNS.1 now (by omega)
                              have hwk : wS G (Zf G A S0 now) := wS_Zf hW hw0 now
                              have em : Zf G A S0 (min t now) = Zf G A S0 now := by rw [show min t now = now by omega]
                              have hskb : sk ≤ 56000 := by omega
                              refine xe_imul dX10_lack_232 (v := nI sk) ((pk_mul 112 now).trans (congrArg nI esk.symm)) ?_
                              refine xi_bipush (v := 6) dX10_lack_233 (by decide) ?_
                              refine xi_iload_n dX10_lack_235 rfl ?_
                              refine xe_imul dX10_lack_236 (v := nI (6 * p)) (pk_mul 6 p) ?_
                              refine xe_iadd dX10_lack_237 (v := nI (sk + (6 * p))) (nI_add sk (6 * p)) ?_
                              refine xi_istore (lv' := [some (.ref 0), some (.int (nI p)), some (.long b), none, some (.int (nI (ub b % 16))), some (.int (nI (ub b / 16 % 4))), some (.int (nI (ub b / 64 % 16))), some (.int (nI t)), some (.int (nI (ub b / 67108864 % 256))), some (.int (nI (sk + (6 * p))))]) dX10_lack_238 (by decide) rfl ?_
                              refine xi_aload_n dX10_lack_240 rfl ?_
                              refine xi_getR dX10_lack_241 fgX10_39 mm0 rfl ?_
                              refine xi_iload dX10_lack_244 rfl ?_
                              refine xat 246 rfl ?_
                              refine xi_iconst (v := 1) dX10_lack_246 rfl ?_
                              refine xe_iadd dX10_lack_247 (v := nI (sk + (6 * p) + 1)) (nI_add (sk + (6 * p)) 1) ?_
                              have lq := hwk.2.1 p (by omega)
                              refine xe_iald (v := nI (sL (Zf G A S0 now) p)) (sk + (6 * p) + 1) dX10_lack_248 mm5 (by decide) rfl (by omega) (rmL hSk (by omega)) ?_
                              refine xn_if_ne (sL (Zf G A S0 now) p) 255 dX10_lack_249 (by decide) rfl (by omega) (fun h249 => ?_) (fun h249 => ?_)
                              · skip
                                refine xi_iload dX10_lack_255 rfl ?_
                                refine xi_aload_n dX10_lack_257 rfl ?_
                                refine xe_getI (v := nI now) dX10_lack_258 fgX10_110 mm0 rfl hno ?_
                                refine xn_icmp_gt t now 286 dX10_lack_261 (by decide) rfl rfl (by omega) (by omega) (fun h261 => ?_) (fun h261 => ?_)
                                · skip
                                  refine xi_iconst (v := 0) dX10_lack_286 rfl ?_
                                  refine xi_iret (v := 0) dX10_lack_287 rfl ?_
                                  have n8 : ¬ (t ≤ now ∧ mforb G (Zf G A S0 t) p (ub b % 1024) = true) := fun q => by first | omega | (have q2 := q.2; rw [h278] at q2; cases q2)
                                  have z42 := (ub_42 b).mp ((lg_cmp_eq _ _).mp h51)
                                  have e17 : ub b / 17179869184 = msumU (ub b) := by omega
                                  have h27 : mokU (ub b) = true := by unfold mokU mok; simp; omega
                                  have e : mrefuse G S0 now late A sq p (ub b) = 0 := by
                                    unfold mrefuse
                                    rw [← et]
                                    rw [if_neg (fun q => q e17), if_neg (by rw [h27]; decide), if_neg (fun q => q h147), if_neg (by omega), if_neg (by omega), if_neg (fun q => q e107), if_neg (by rw [em]; omega), if_neg (fun q => n8 q)]
                                  rw [e] at h
                                  exact h
                                · skip
                                  refine xi_aload_n dX10_lack_264 rfl ?_
                                  refine xi_bipush (v := 112) dX10_lack_265 (by decide) ?_
                                  refine xi_iload dX10_lack_267 rfl ?_
                                  refine xe_imul dX10_lack_269 (v := nI (112 * t)) (pk_mul 112 t) ?_
                                  refine xi_iload_n dX10_lack_270 rfl ?_
                                  refine xi_iload dX10_lack_271 rfl ?_
                                  refine xi_iload dX10_lack_273 rfl ?_
                                  refine xi_callV [.int (nI (112 * t)), .int (nI p), .int (nI (ub b % 16)), .int (nI (ub b / 16 % 4))] [] dX10_lack_275 zX10_isCrafted mlX10_237 mm0 rfl rfl rfl rfl rfl (Nat.le_of_ble_eq_true rfl) (Nat.le_of_ble_eq_true rfl) ⟨by decide, by decide⟩ ?_
                                  refine n_craft2 hW hG (s := 112 * t) (by omega) (hNS.1 t (by omega)) (wS_Zf hW hw0 t) (p := p) (c := ub b % 1024) (by omega) (by omega) (ub_mod _).1.symm (ub_mod _).2.1.symm ?_
                                  show WP _ _ 278 _ [.int (xb (mforb G (Zf G A S0 t) p (ub b % 1024)))] _ _
                                  refine xb_if_eq (mforb G (Zf G A S0 t) p (ub b % 1024)) 286 dX10_lack_278 (by decide) rfl (fun h278 => ?_) (fun h278 => ?_)
                                  · skip
                                    refine xi_iconst (v := 0) dX10_lack_286 rfl ?_
                                    refine xi_iret (v := 0) dX10_lack_287 rfl ?_
                                    have n8 : ¬ (t ≤ now ∧ mforb G (Zf G A S0 t) p (ub b % 1024) = true) := fun q => by first | omega | (have q2 := q.2; rw [h278] at q2; cases q2)
                                    have z42 := (ub_42 b).mp ((lg_cmp_eq _ _).mp h51)
                                    have e17 : ub b / 17179869184 = msumU (ub b) := by omega
                                    have h27 : mokU (ub b) = true := by unfold mokU mok; simp; omega
                                    have e : mrefuse G S0 now late A sq p (ub b) = 0 := by
                                      unfold mrefuse
                                      rw [← et]
                                      rw [if_neg (fun q => q e17), if_neg (by rw [h27]; decide), if_neg (fun q => q h147), if_neg (by omega), if_neg (by omega), if_neg (fun q => q e107), if_neg (by rw [em]; omega), if_neg (fun q => n8 q)]
                                    rw [e] at h
                                    exact h
                                  · skip
                                    refine xi_bipush (v := (-16)) dX10_lack_281 (by decide) ?_
                                    refine xi_goto 287 dX10_lack_283 (by decide) ?_
                                    refine xi_iret (v := (-16)) dX10_lack_287 rfl ?_
                                    have z42 := (ub_42 b).mp ((lg_cmp_eq _ _).mp h51)
                                    have e17 : ub b / 17179869184 = msumU (ub b) := by omega
                                    have h27 : mokU (ub b) = true := by unfold mokU mok; simp; omega
                                    have e : mrefuse G S0 now late A sq p (ub b) = (-16) := by
                                      unfold mrefuse
                                      rw [← et]
                                      rw [if_neg (fun q => q e17), if_neg (by rw [h27]; decide), if_neg (fun q => q h147), if_neg (by omega), if_neg (by omega), if_neg (fun q => q e107), if_neg (by rw [em]; omega), if_pos ⟨by omega, h278⟩]
                                    rw [e] at h
                                    exact h
                              · skip
                                refine xi_bipush (v := (-10)) dX10_lack_252 (by decide) ?_
                                refine xi_iret (v := (-10)) dX10_lack_254 rfl ?_
                                have z42 := (ub_42 b).mp ((lg_cmp_eq _ _).mp h51)
                                have e17 : ub b / 17179869184 = msumU (ub b) := by omega
                                have h27 : mokU (ub b) = true := by unfold mokU mok; simp; omega
                                have e : mrefuse G S0 now late A sq p (ub b) = (-10) := by
                                  unfold mrefuse
                                  rw [← et]
                                  rw [if_neg (fun q => q e17), if_neg (by rw [h27]; decide), if_neg (fun q => q h147), if_neg (by omega), if_neg (by omega), if_neg (fun q => q e107), if_pos (by rw [em]; omega)]
                                rw [e] at h
                                exact h
                            · skip
                              refine xi_iload dX10_lack_223 rfl ?_
                              refine xi_goto 232 dX10_lack_225 (by decide) ?_
                              obtain ⟨sk, esk⟩ : ∃ sk, sk = 112 * t := ⟨_, rfl⟩
                              have hSk : RM G (Zf G A S0 t) M sk := by rw [esk]; exact hNS.1 t (by omega)
                              have hwk : wS G (Zf G A S0 t) := wS_Zf hW hw0 t
                              have em : Zf G A S0 (min t now) = Zf G A S0 t := by rw [show min t now = t by omega]
                              have hskb : sk ≤ 56000 := by omega
                              refine xe_imul dX10_lack_232 (v := nI sk) ((pk_mul 112 t).trans (congrArg nI esk.symm)) ?_
                              refine xi_bipush (v := 6) dX10_lack_233 (by decide) ?_
                              refine xi_iload_n dX10_lack_235 rfl ?_
                              refine xe_imul dX10_lack_236 (v := nI (6 * p)) (pk_mul 6 p) ?_
                              refine xe_iadd dX10_lack_237 (v := nI (sk + (6 * p))) (nI_add sk (6 * p)) ?_
                              refine xi_istore (lv' := [some (.ref 0), some (.int (nI p)), some (.long b), none, some (.int (nI (ub b % 16))), some (.int (nI (ub b / 16 % 4))), some (.int (nI (ub b / 64 % 16))), some (.int (nI t)), some (.int (nI (ub b / 67108864 % 256))), some (.int (nI (sk + (6 * p))))]) dX10_lack_238 (by decide) rfl ?_
                              refine xi_aload_n dX10_lack_240 rfl ?_
                              refine xi_getR dX10_lack_241 fgX10_39 mm0 rfl ?_
                              refine xi_iload dX10_lack_244 rfl ?_
                              refine xi_iconst (v := 1) dX10_lack_246 rfl ?_
                              refine xe_iadd dX10_lack_247 (v := nI (sk + (6 * p) + 1)) (nI_add (sk + (6 * p)) 1) ?_
                              refine xat 248 rfl ?_
                              have lq := hwk.2.1 p (by omega)
                              refine xe_iald (v := nI (sL (Zf G A S0 t) p)) (sk + (6 * p) + 1) dX10_lack_248 mm5 (by decide) rfl (by omega) (rmL hSk (by omega)) ?_
                              refine xn_if_ne (sL (Zf G A S0 t) p) 255 dX10_lack_249 (by decide) rfl (by omega) (fun h249 => ?_) (fun h249 => ?_)
                              · skip
                                refine xi_iload dX10_lack_255 rfl ?_
                                refine xi_aload_n dX10_lack_257 rfl ?_
                                refine xe_getI (v := nI now) dX10_lack_258 fgX10_110 mm0 rfl hno ?_
                                refine xn_icmp_gt t now 286 dX10_lack_261 (by decide) rfl rfl (by omega) (by omega) (fun h261 => ?_) (fun h261 => ?_)
                                · skip
                                  refine xi_iconst (v := 0) dX10_lack_286 rfl ?_
                                  refine xi_iret (v := 0) dX10_lack_287 rfl ?_
                                  have n8 : ¬ (t ≤ now ∧ mforb G (Zf G A S0 t) p (ub b % 1024) = true) := fun q => by first | omega | (have q2 := q.2; rw [h278] at q2; cases q2)
                                  have z42 := (ub_42 b).mp ((lg_cmp_eq _ _).mp h51)
                                  have e17 : ub b / 17179869184 = msumU (ub b) := by omega
                                  have h27 : mokU (ub b) = true := by unfold mokU mok; simp; omega
                                  have e : mrefuse G S0 now late A sq p (ub b) = 0 := by
                                    unfold mrefuse
                                    rw [← et]
                                    rw [if_neg (fun q => q e17), if_neg (by rw [h27]; decide), if_neg (fun q => q h147), if_neg (by omega), if_neg (by omega), if_neg (fun q => q e107), if_neg (by rw [em]; omega), if_neg (fun q => n8 q)]
                                  rw [e] at h
                                  exact h
                                · skip
                                  refine xi_aload_n dX10_lack_264 rfl ?_
                                  refine xi_bipush (v := 112) dX10_lack_265 (by decide) ?_
                                  refine xi_iload dX10_lack_267 rfl ?_
                                  refine xe_imul dX10_lack_269 (v := nI (112 * t)) (pk_mul 112 t) ?_
                                  refine xi_iload_n dX10_lack_270 rfl ?_
                                  refine xi_iload dX10_lack_271 rfl ?_
                                  refine xi_iload dX10_lack_273 rfl ?_
                                  refine xi_callV [.int (nI (112 * t)), .int (nI p), .int (nI (ub b % 16)), .int (nI (ub b / 16 % 4))] [] dX10_lack_275 zX10_isCrafted mlX10_237 mm0 rfl rfl rfl rfl rfl (Nat.le_of_ble_eq_true rfl) (Nat.le_of_ble_eq_true rfl) ⟨by decide, by decide⟩ ?_
                                  refine n_craft2 hW hG (s := 112 * t) (by omega) (hNS.1 t (by omega)) (wS_Zf hW hw0 t) (p := p) (c := ub b % 1024) (by omega) (by omega) (ub_mod _).1.symm (ub_mod _).2.1.symm ?_
                                  show WP _ _ 278 _ [.int (xb (mforb G (Zf G A S0 t) p (ub b % 1024)))] _ _
                                  refine xb_if_eq (mforb G (Zf G A S0 t) p (ub b % 1024)) 286 dX10_lack_278 (by decide) rfl (fun h278 => ?_) (fun h278 => ?_)
                                  · skip
                                    refine xi_iconst (v := 0) dX10_lack_286 rfl ?_
                                    refine xi_iret (v := 0) dX10_lack_287 rfl ?_
                                    have n8 : ¬ (t ≤ now ∧ mforb G (Zf G A S0 t) p (ub b % 1024) = true) := fun q => by first | omega | (have q2 := q.2; rw [h278] at q2; cases q2)
                                    have z42 := (ub_42 b).mp ((lg_cmp_eq _ _).mp h51)
                                    have e17 : ub b / 17179869184 = msumU (ub b) := by omega
                                    have h27 : mokU (ub b) = true := by unfold mokU mok; simp; omega
                                    have e : mrefuse G S0 now late A sq p (ub b) = 0 := by
                                      unfold mrefuse
                                      rw [← et]
                                      rw [if_neg (fun q => q e17), if_neg (by rw [h27]; decide), if_neg (fun q => q h147), if_neg (by omega), if_neg (by omega), if_neg (fun q => q e107), if_neg (by rw [em]; omega), if_neg (fun q => n8 q)]
                                    rw [e] at h
                                    exact h
                                  · skip
                                    refine xi_bipush (v := (-16)) dX10_lack_281 (by decide) ?_
                                    refine xi_goto 287 dX10_lack_283 (by decide) ?_
                                    refine xi_iret (v := (-16)) dX10_lack_287 rfl ?_
                                    have z42 := (ub_42 b).mp ((lg_cmp_eq _ _).mp h51)
                                    have e17 : ub b / 17179869184 = msumU (ub b) := by omega
                                    have h27 : mokU (ub b) = true := by unfold mokU mok; simp; omega
                                    have e : mrefuse G S0 now late A sq p (ub b) = (-16) := by
                                      unfold mrefuse
                                      rw [← et]
                                      rw [if_neg (fun q => q e17), if_neg (by rw [h27]; decide), if_neg (fun q => q h147), if_neg (by omega), if_neg (by omega), if_neg (fun q => q e107), if_neg (by rw [em]; omega), if_pos ⟨by omega, h278⟩]
                                    rw [e] at h
                                    exact h
                              · skip
                                refine xi_bipush (v := (-10)) dX10_lack_252 (by decide) ?_
                                refine xi_iret (v := (-10)) dX10_lack_254 rfl ?_
                                have z42 := (ub_42 b).mp ((lg_cmp_eq _ _).mp h51)
                                have e17 : ub b / 17179869184 = msumU (ub b) := by omega
                                have h27 : mokU (ub b) = true := by unfold mokU mok; simp; omega
                                have e : mrefuse G S0 now late A sq p (ub b) = (-10) := by
                                  unfold mrefuse
                                  rw [← et]
                                  rw [if_neg (fun q => q e17), if_neg (by rw [h27]; decide), if_neg (fun q => q h147), if_neg (by omega), if_neg (by omega), if_neg (fun q => q e107), if_pos (by rw [em]; omega)]
                                rw [e] at h
                                exact h
                          · have e107 : ¬ A (4 * t + p) = 4096 := h206
                            refine xi_bipush (v := (-9)) dX10_lack_209 (by decide) ?_
                            refine xi_iret (v := (-9)) dX10_lack_211 rfl ?_
                            have z42 := (ub_42 b).mp ((lg_cmp_eq _ _).mp h51)
                            have e17 : ub b / 17179869184 = msumU (ub b) := by omega
                            have h27 : mokU (ub b) = true := by unfold mokU mok; simp; omega
                            have e : mrefuse G S0 now late A sq p (ub b) = (-9) := by
                              unfold mrefuse
                              rw [← et]
                              rw [if_neg (fun q => q e17), if_neg (by rw [h27]; decide), if_neg (fun q => q h147), if_neg (by omega), if_neg (by omega), if_pos (fun q => e107 q)]
                            rw [e] at h
                            exact h
                        · skip
                          refine xi_bipush (v := (-8)) dX10_lack_189 (by decide) ?_
                          refine xi_iret (v := (-8)) dX10_lack_191 rfl ?_
                          have z42 := (ub_42 b).mp ((lg_cmp_eq _ _).mp h51)
                          have e17 : ub b / 17179869184 = msumU (ub b) := by omega
                          have h27 : mokU (ub b) = true := by unfold mokU mok; simp; omega
                          have e : mrefuse G S0 now late A sq p (ub b) = (-8) := by
                            unfold mrefuse
                            rw [← et]
                            rw [if_neg (fun q => q e17), if_neg (by rw [h27]; decide), if_neg (fun q => q h147), if_neg (by omega), if_pos (by omega)]
                          rw [e] at h
                          exact h
                    · skip
                      refine xi_bipush (v := (-7)) dX10_lack_167 (by decide) ?_
                      refine xi_iret (v := (-7)) dX10_lack_169 rfl ?_
                      have z42 := (ub_42 b).mp ((lg_cmp_eq _ _).mp h51)
                      have e17 : ub b / 17179869184 = msumU (ub b) := by omega
                      have h27 : mokU (ub b) = true := by unfold mokU mok; simp; omega
                      have e : mrefuse G S0 now late A sq p (ub b) = (-7) := by
                        unfold mrefuse
                        rw [← et]
                        rw [if_neg (fun q => q e17), if_neg (by rw [h27]; decide), if_neg (fun q => q h147), if_pos (by omega)]
                      rw [e] at h
                      exact h
                  · skip
                    refine xi_bipush (v := (-6)) dX10_lack_150 (by decide) ?_
                    refine xi_iret (v := (-6)) dX10_lack_152 rfl ?_
                    have z42 := (ub_42 b).mp ((lg_cmp_eq _ _).mp h51)
                    have e17 : ub b / 17179869184 = msumU (ub b) := by omega
                    have h27 : mokU (ub b) = true := by unfold mokU mok; simp; omega
                    have e : mrefuse G S0 now late A sq p (ub b) = (-6) := by
                      unfold mrefuse
                      rw [← et]
                      rw [if_neg (fun q => q e17), if_neg (by rw [h27]; decide), if_pos h147]
                    rw [e] at h
                    exact h
                · skip
                  refine xi_bipush (v := (-3)) dX10_lack_136 (by decide) ?_
                  refine xi_iret (v := (-3)) dX10_lack_138 rfl ?_
                  have z42 := (ub_42 b).mp ((lg_cmp_eq _ _).mp h51)
                  have e17 : ub b / 17179869184 = msumU (ub b) := by omega
                  have h27 : mokU (ub b) = false := by unfold mokU mok; simp; omega
                  have e : mrefuse G S0 now late A sq p (ub b) = (-3) := by
                    unfold mrefuse
                    rw [← et]
                    rw [if_neg (fun q => q e17), if_pos h27]
                  rw [e] at h
                  exact h
        · skip
          refine xi_iload dX10_lack_108 rfl ?_
          refine xi_iconst (v := 3) dX10_lack_110 rfl ?_
          refine xn_icmp_ne (ub b % 16) 3 136 dX10_lack_111 (by decide) rfl rfl (by omega) (by omega) (fun h111 => ?_) (fun h111 => ?_)
          · skip
            refine xi_bipush (v := (-3)) dX10_lack_136 (by decide) ?_
            refine xi_iret (v := (-3)) dX10_lack_138 rfl ?_
            have z42 := (ub_42 b).mp ((lg_cmp_eq _ _).mp h51)
            have e17 : ub b / 17179869184 = msumU (ub b) := by omega
            have h27 : mokU (ub b) = false := by unfold mokU mok; simp; omega
            have e : mrefuse G S0 now late A sq p (ub b) = (-3) := by
              unfold mrefuse
              rw [← et]
              rw [if_neg (fun q => q e17), if_pos h27]
            rw [e] at h
            exact h
          · skip
            refine xi_iload dX10_lack_114 rfl ?_
            refine xn_if_eq (ub b / 16 % 4) 139 dX10_lack_116 (by decide) rfl (by omega) (fun h116 => ?_) (fun h116 => ?_)
            · skip
              refine xi_iload dX10_lack_139 rfl ?_
              refine xi_aload_n dX10_lack_141 rfl ?_
              refine xi_getR dX10_lack_142 fgX10_52 mm0 rfl ?_
              refine xi_iload_n dX10_lack_145 rfl ?_
              refine xe_iald (v := nI (sq p)) p dX10_lack_146 mm9 (by decide) rfl (by omega) (hNQ p (by omega)) ?_
              refine xn_icmp_eq (ub b / 67108864 % 256) (sq p) 153 dX10_lack_147 (by decide) rfl rfl (by omega) (by omega) (fun h147 => ?_) (fun h147 => ?_)
              · skip
                refine xi_iload dX10_lack_153 rfl ?_
                refine xi_aload_n dX10_lack_155 rfl ?_
                refine xe_getI (v := nI now) dX10_lack_156 fgX10_110 mm0 rfl hno ?_
                refine xi_aload_n dX10_lack_159 rfl ?_
                refine xe_getI (v := nI late) dX10_lack_160 fgX10_32 mm0 rfl hla ?_
                refine xi_isub dX10_lack_163 ?_
                refine xs_icmp_ge t now late 170 dX10_lack_164 (by decide) rfl rfl (by omega) (by omega) (by omega) (fun h164 => ?_) (fun h164 => ?_)
                · skip
                  refine xi_iload dX10_lack_170 rfl ?_
                  refine xi_aload_n dX10_lack_172 rfl ?_
                  refine xe_getI (v := nI now) dX10_lack_173 fgX10_110 mm0 rfl hno ?_
                  refine xi_iconst (v := 2) dX10_lack_176 rfl ?_
                  refine xe_iadd dX10_lack_177 (v := nI (now + 2)) (nI_add now 2) ?_
                  refine xn_icmp_gt t (now + 2) 189 dX10_lack_178 (by decide) rfl rfl (by omega) (by omega) (fun h178 => ?_) (fun h178 => ?_)
                  · skip
                    refine xi_bipush (v := (-8)) dX10_lack_189 (by decide) ?_
                    refine xi_iret (v := (-8)) dX10_lack_191 rfl ?_
                    have z42 := (ub_42 b).mp ((lg_cmp_eq _ _).mp h51)
                    have e17 : ub b / 17179869184 = msumU (ub b) := by omega
                    have h27 : mokU (ub b) = true := by unfold mokU mok; simp; omega
                    have e : mrefuse G S0 now late A sq p (ub b) = (-8) := by
                      unfold mrefuse
                      rw [← et]
                      rw [if_neg (fun q => q e17), if_neg (by rw [h27]; decide), if_neg (fun q => q h147), if_neg (by omega), if_pos (by omega)]
                    rw [e] at h
                    exact h
                  · skip
                    refine xi_iload dX10_lack_181 rfl ?_
                    refine xi_sipush (v := 499) dX10_lack_183 (by decide) ?_
                    refine xn_icmp_le t 499 192 dX10_lack_186 (by decide) rfl rfl (by omega) (by omega) (fun h186 => ?_) (fun h186 => ?_)
                    · skip
                      refine xi_aload_n dX10_lack_192 rfl ?_
                      refine xi_getR dX10_lack_193 fgX10_42 mm0 rfl ?_
                      refine xi_iconst (v := 4) dX10_lack_196 rfl ?_
                      refine xi_iload dX10_lack_197 rfl ?_
                      refine xe_imul dX10_lack_199 (v := nI (4 * t)) (pk_mul 4 t) ?_
                      refine xi_iload_n dX10_lack_200 rfl ?_
                      refine xe_iadd dX10_lack_201 (v := nI (4 * t + p)) (nI_add (4 * t) p) ?_
                      refine xe_iald (v := nI (A (4 * t + p))) (4 * t + p) dX10_lack_202 mm6 (by decide) rfl (by omega) (hNA (4 * t + p) (by omega)) ?_
                      refine xi_sipush (v := 4096) dX10_lack_203 (by decide) ?_
                      refine xn_icmp_eq (A (4 * t + p)) 4096 212 dX10_lack_206 (by decide) rfl rfl (by omega) (by omega) (fun h206 => ?_) (fun h206 => ?_)
                      · have e107 : A (4 * t + p) = 4096 := h206
                        refine xi_bipush (v := 112) dX10_lack_212 (by decide) ?_
                        refine xi_iload dX10_lack_214 rfl ?_
                        refine xi_aload_n dX10_lack_216 rfl ?_
                        refine xe_getI (v := nI now) dX10_lack_217 fgX10_110 mm0 rfl hno ?_
                        refine xn_icmp_ge t now 228 dX10_lack_220 (by decide) rfl rfl (by omega) (by omega) (fun h220 => ?_) (fun h220 => ?_)
                        · skip
                          refine xi_aload_n dX10_lack_228 rfl ?_
                          refine xe_getI (v := nI now) dX10_lack_229 fgX10_110 mm0 rfl hno ?_
                          obtain ⟨sk, esk⟩ : ∃ sk, sk = 112 * now := ⟨_, rfl⟩
                          have hSk : RM G (Zf G A S0 now) M sk := by rw [esk]; exact hNS.1 now (by omega)
                          have hwk : wS G (Zf G A S0 now) := wS_Zf hW hw0 now
                          have em : Zf G A S0 (min t now) = Zf G A S0 now := by rw [show min t now = now by omega]
                          have hskb : sk ≤ 56000 := by omega
                          refine xe_imul dX10_lack_232 (v := nI sk) ((pk_mul 112 now).trans (congrArg nI esk.symm)) ?_
                          refine xi_bipush (v := 6) dX10_lack_233 (by decide) ?_
                          refine xi_iload_n dX10_lack_235 rfl ?_
                          refine xe_imul dX10_lack_236 (v := nI (6 * p)) (pk_mul 6 p) ?_
                          refine xe_iadd dX10_lack_237 (v := nI (sk + (6 * p))) (nI_add sk (6 * p)) ?_
                          refine xi_istore (lv' := [some (.ref 0), some (.int (nI p)), some (.long b), none, some (.int (nI (ub b % 16))), some (.int (nI (ub b / 16 % 4))), some (.int (nI (ub b / 64 % 16))), some (.int (nI t)), some (.int (nI (ub b / 67108864 % 256))), some (.int (nI (sk + (6 * p))))]) dX10_lack_238 (by decide) rfl ?_
                          refine xi_aload_n dX10_lack_240 rfl ?_
                          refine xi_getR dX10_lack_241 fgX10_39 mm0 rfl ?_
                          refine xi_iload dX10_lack_244 rfl ?_
                          refine xat 246 rfl ?_
                          refine xi_iconst (v := 1) dX10_lack_246 rfl ?_
                          refine xe_iadd dX10_lack_247 (v := nI (sk + (6 * p) + 1)) (nI_add (sk + (6 * p)) 1) ?_
                          have lq := hwk.2.1 p (by omega)
                          refine xe_iald (v := nI (sL (Zf G A S0 now) p)) (sk + (6 * p) + 1) dX10_lack_248 mm5 (by decide) rfl (by omega) (rmL hSk (by omega)) ?_
                          refine xn_if_ne (sL (Zf G A S0 now) p) 255 dX10_lack_249 (by decide) rfl (by omega) (fun h249 => ?_) (fun h249 => ?_)
                          · skip
                            refine xi_iload dX10_lack_255 rfl ?_
                            refine xi_aload_n dX10_lack_257 rfl ?_
                            refine xe_getI (v := nI now) dX10_lack_258 fgX10_110 mm0 rfl hno ?_
                            refine xn_icmp_gt t now 286 dX10_lack_261 (by decide) rfl rfl (by omega) (by omega) (fun h261 => ?_) (fun h261 => ?_)
                            · skip
                              refine xi_iconst (v := 0) dX10_lack_286 rfl ?_
                              refine xi_iret (v := 0) dX10_lack_287 rfl ?_
                              have n8 : ¬ (t ≤ now ∧ mforb G (Zf G A S0 t) p (ub b % 1024) = true) := fun q => by first | omega | (have q2 := q.2; rw [h278] at q2; cases q2)
                              have z42 := (ub_42 b).mp ((lg_cmp_eq _ _).mp h51)
                              have e17 : ub b / 17179869184 = msumU (ub b) := by omega
                              have h27 : mokU (ub b) = true := by unfold mokU mok; simp; omega
                              have e : mrefuse G S0 now late A sq p (ub b) = 0 := by
                                unfold mrefuse
                                rw [← et]
                                rw [if_neg (fun q => q e17), if_neg (by rw [h27]; decide), if_neg (fun q => q h147), if_neg (by omega), if_neg (by omega), if_neg (fun q => q e107), if_neg (by rw [em]; omega), if_neg (fun q => n8 q)]
                              rw [e] at h
                              exact h
                            · skip
                              refine xi_aload_n dX10_lack_264 rfl ?_
                              refine xi_bipush (v := 112) dX10_lack_265 (by decide) ?_
                              refine xi_iload dX10_lack_267 rfl ?_
                              refine xe_imul dX10_lack_269 (v := nI (112 * t)) (pk_mul 112 t) ?_
                              refine xi_iload_n dX10_lack_270 rfl ?_
                              refine xi_iload dX10_lack_271 rfl ?_
                              refine xi_iload dX10_lack_273 rfl ?_
                              refine xi_callV [.int (nI (112 * t)), .int (nI p), .int (nI (ub b % 16)), .int (nI (ub b / 16 % 4))] [] dX10_lack_275 zX10_isCrafted mlX10_237 mm0 rfl rfl rfl rfl rfl (Nat.le_of_ble_eq_true rfl) (Nat.le_of_ble_eq_true rfl) ⟨by decide, by decide⟩ ?_
                              refine n_craft2 hW hG (s := 112 * t) (by omega) (hNS.1 t (by omega)) (wS_Zf hW hw0 t) (p := p) (c := ub b % 1024) (by omega) (by omega) (ub_mod _).1.symm (ub_mod _).2.1.symm ?_
                              show WP _ _ 278 _ [.int (xb (mforb G (Zf G A S0 t) p (ub b % 1024)))] _ _
                              refine xb_if_eq (mforb G (Zf G A S0 t) p (ub b % 1024)) 286 dX10_lack_278 (by decide) rfl (fun h278 => ?_) (fun h278 => ?_)
                              · skip
                                refine xi_iconst (v := 0) dX10_lack_286 rfl ?_
                                refine xi_iret (v := 0) dX10_lack_287 rfl ?_
                                have n8 : ¬ (t ≤ now ∧ mforb G (Zf G A S0 t) p (ub b % 1024) = true) := fun q => by first | omega | (have q2 := q.2; rw [h278] at q2; cases q2)
                                have z42 := (ub_42 b).mp ((lg_cmp_eq _ _).mp h51)
                                have e17 : ub b / 17179869184 = msumU (ub b) := by omega
                                have h27 : mokU (ub b) = true := by unfold mokU mok; simp; omega
                                have e : mrefuse G S0 now late A sq p (ub b) = 0 := by
                                  unfold mrefuse
                                  rw [← et]
                                  rw [if_neg (fun q => q e17), if_neg (by rw [h27]; decide), if_neg (fun q => q h147), if_neg (by omega), if_neg (by omega), if_neg (fun q => q e107), if_neg (by rw [em]; omega), if_neg (fun q => n8 q)]
                                rw [e] at h
                                exact h
                              · skip
                                refine xi_bipush (v := (-16)) dX10_lack_281 (by decide) ?_
                                refine xi_goto 287 dX10_lack_283 (by decide) ?_
                                refine xi_iret (v := (-16)) dX10_lack_287 rfl ?_
                                have z42 := (ub_42 b).mp ((lg_cmp_eq _ _).mp h51)
                                have e17 : ub b / 17179869184 = msumU (ub b) := by omega
                                have h27 : mokU (ub b) = true := by unfold mokU mok; simp; omega
                                have e : mrefuse G S0 now late A sq p (ub b) = (-16) := by
                                  unfold mrefuse
                                  rw [← et]
                                  rw [if_neg (fun q => q e17), if_neg (by rw [h27]; decide), if_neg (fun q => q h147), if_neg (by omega), if_neg (by omega), if_neg (fun q => q e107), if_neg (by rw [em]; omega), if_pos ⟨by omega, h278⟩]
                                rw [e] at h
                                exact h
                          · skip
                            refine xi_bipush (v := (-10)) dX10_lack_252 (by decide) ?_
                            refine xi_iret (v := (-10)) dX10_lack_254 rfl ?_
                            have z42 := (ub_42 b).mp ((lg_cmp_eq _ _).mp h51)
                            have e17 : ub b / 17179869184 = msumU (ub b) := by omega
                            have h27 : mokU (ub b) = true := by unfold mokU mok; simp; omega
                            have e : mrefuse G S0 now late A sq p (ub b) = (-10) := by
                              unfold mrefuse
                              rw [← et]
                              rw [if_neg (fun q => q e17), if_neg (by rw [h27]; decide), if_neg (fun q => q h147), if_neg (by omega), if_neg (by omega), if_neg (fun q => q e107), if_pos (by rw [em]; omega)]
                            rw [e] at h
                            exact h
                        · skip
                          refine xi_iload dX10_lack_223 rfl ?_
                          refine xi_goto 232 dX10_lack_225 (by decide) ?_
                          obtain ⟨sk, esk⟩ : ∃ sk, sk = 112 * t := ⟨_, rfl⟩
                          have hSk : RM G (Zf G A S0 t) M sk := by rw [esk]; exact hNS.1 t (by omega)
                          have hwk : wS G (Zf G A S0 t) := wS_Zf hW hw0 t
                          have em : Zf G A S0 (min t now) = Zf G A S0 t := by rw [show min t now = t by omega]
                          have hskb : sk ≤ 56000 := by omega
                          refine xe_imul dX10_lack_232 (v := nI sk) ((pk_mul 112 t).trans (congrArg nI esk.symm)) ?_
                          refine xi_bipush (v := 6) dX10_lack_233 (by decide) ?_
                          refine xi_iload_n dX10_lack_235 rfl ?_
                          refine xe_imul dX10_lack_236 (v := nI (6 * p)) (pk_mul 6 p) ?_
                          refine xe_iadd dX10_lack_237 (v := nI (sk + (6 * p))) (nI_add sk (6 * p)) ?_
                          refine xi_istore (lv' := [some (.ref 0), some (.int (nI p)), some (.long b), none, some (.int (nI (ub b % 16))), some (.int (nI (ub b / 16 % 4))), some (.int (nI (ub b / 64 % 16))), some (.int (nI t)), some (.int (nI (ub b / 67108864 % 256))), some (.int (nI (sk + (6 * p))))]) dX10_lack_238 (by decide) rfl ?_
                          refine xi_aload_n dX10_lack_240 rfl ?_
                          refine xi_getR dX10_lack_241 fgX10_39 mm0 rfl ?_
                          refine xi_iload dX10_lack_244 rfl ?_
                          refine xi_iconst (v := 1) dX10_lack_246 rfl ?_
                          refine xe_iadd dX10_lack_247 (v := nI (sk + (6 * p) + 1)) (nI_add (sk + (6 * p)) 1) ?_
                          refine xat 248 rfl ?_
                          have lq := hwk.2.1 p (by omega)
                          refine xe_iald (v := nI (sL (Zf G A S0 t) p)) (sk + (6 * p) + 1) dX10_lack_248 mm5 (by decide) rfl (by omega) (rmL hSk (by omega)) ?_
                          refine xn_if_ne (sL (Zf G A S0 t) p) 255 dX10_lack_249 (by decide) rfl (by omega) (fun h249 => ?_) (fun h249 => ?_)
                          · skip
                            refine xi_iload dX10_lack_255 rfl ?_
                            refine xi_aload_n dX10_lack_257 rfl ?_
                            refine xe_getI (v := nI now) dX10_lack_258 fgX10_110 mm0 rfl hno ?_
                            refine xn_icmp_gt t now 286 dX10_lack_261 (by decide) rfl rfl (by omega) (by omega) (fun h261 => ?_) (fun h261 => ?_)
                            · skip
                              refine xi_iconst (v := 0) dX10_lack_286 rfl ?_
                              refine xi_iret (v := 0) dX10_lack_287 rfl ?_
                              have n8 : ¬ (t ≤ now ∧ mforb G (Zf G A S0 t) p (ub b % 1024) = true) := fun q => by first | omega | (have q2 := q.2; rw [h278] at q2; cases q2)
                              have z42 := (ub_42 b).mp ((lg_cmp_eq _ _).mp h51)
                              have e17 : ub b / 17179869184 = msumU (ub b) := by omega
                              have h27 : mokU (ub b) = true := by unfold mokU mok; simp; omega
                              have e : mrefuse G S0 now late A sq p (ub b) = 0 := by
                                unfold mrefuse
                                rw [← et]
                                rw [if_neg (fun q => q e17), if_neg (by rw [h27]; decide), if_neg (fun q => q h147), if_neg (by omega), if_neg (by omega), if_neg (fun q => q e107), if_neg (by rw [em]; omega), if_neg (fun q => n8 q)]
                              rw [e] at h
                              exact h
                            · skip
                              refine xi_aload_n dX10_lack_264 rfl ?_
                              refine xi_bipush (v := 112) dX10_lack_265 (by decide) ?_
                              refine xi_iload dX10_lack_267 rfl ?_
                              refine xe_imul dX10_lack_269 (v := nI (112 * t)) (pk_mul 112 t) ?_
                              refine xi_iload_n dX10_lack_270 rfl ?_
                              refine xi_iload dX10_lack_271 rfl ?_
                              refine xi_iload dX10_lack_273 rfl ?_
                              refine xi_callV [.int (nI (112 * t)), .int (nI p), .int (nI (ub b % 16)), .int (nI (ub b / 16 % 4))] [] dX10_lack_275 zX10_isCrafted mlX10_237 mm0 rfl rfl rfl rfl rfl (Nat.le_of_ble_eq_true rfl) (Nat.le_of_ble_eq_true rfl) ⟨by decide, by decide⟩ ?_
                              refine n_craft2 hW hG (s := 112 * t) (by omega) (hNS.1 t (by omega)) (wS_Zf hW hw0 t) (p := p) (c := ub b % 1024) (by omega) (by omega) (ub_mod _).1.symm (ub_mod _).2.1.symm ?_
                              show WP _ _ 278 _ [.int (xb (mforb G (Zf G A S0 t) p (ub b % 1024)))] _ _
                              refine xb_if_eq (mforb G (Zf G A S0 t) p (ub b % 1024)) 286 dX10_lack_278 (by decide) rfl (fun h278 => ?_) (fun h278 => ?_)
                              · skip
                                refine xi_iconst (v := 0) dX10_lack_286 rfl ?_
                                refine xi_iret (v := 0) dX10_lack_287 rfl ?_
                                have n8 : ¬ (t ≤ now ∧ mforb G (Zf G A S0 t) p (ub b % 1024) = true) := fun q => by first | omega | (have q2 := q.2; rw [h278] at q2; cases q2)
                                have z42 := (ub_42 b).mp ((lg_cmp_eq _ _).mp h51)
                                have e17 : ub b / 17179869184 = msumU (ub b) := by omega
                                have h27 : mokU (ub b) = true := by unfold mokU mok; simp; omega
                                have e : mrefuse G S0 now late A sq p (ub b) = 0 := by
                                  unfold mrefuse
                                  rw [← et]
                                  rw [if_neg (fun q => q e17), if_neg (by rw [h27]; decide), if_neg (fun q => q h147), if_neg (by omega), if_neg (by omega), if_neg (fun q => q e107), if_neg (by rw [em]; omega), if_neg (fun q => n8 q)]
                                rw [e] at h
                                exact h
                              · skip
                                refine xi_bipush (v := (-16)) dX10_lack_281 (by decide) ?_
                                refine xi_goto 287 dX10_lack_283 (by decide) ?_
                                refine xi_iret (v := (-16)) dX10_lack_287 rfl ?_
                                have z42 := (ub_42 b).mp ((lg_cmp_eq _ _).mp h51)
                                have e17 : ub b / 17179869184 = msumU (ub b) := by omega
                                have h27 : mokU (ub b) = true := by unfold mokU mok; simp; omega
                                have e : mrefuse G S0 now late A sq p (ub b) = (-16) := by
                                  unfold mrefuse
                                  rw [← et]
                                  rw [if_neg (fun q => q e17), if_neg (by rw [h27]; decide), if_neg (fun q => q h147), if_neg (by omega), if_neg (by omega), if_neg (fun q => q e107), if_neg (by rw [em]; omega), if_pos ⟨by omega, h278⟩]
                                rw [e] at h
                                exact h
                          · skip
                            refine xi_bipush (v := (-10)) dX10_lack_252 (by decide) ?_
                            refine xi_iret (v := (-10)) dX10_lack_254 rfl ?_
                            have z42 := (ub_42 b).mp ((lg_cmp_eq _ _).mp h51)
                            have e17 : ub b / 17179869184 = msumU (ub b) := by omega
                            have h27 : mokU (ub b) = true := by unfold mokU mok; simp; omega
                            have e : mrefuse G S0 now late A sq p (ub b) = (-10) := by
                              unfold mrefuse
                              rw [← et]
                              rw [if_neg (fun q => q e17), if_neg (by rw [h27]; decide), if_neg (fun q => q h147), if_neg (by omega), if_neg (by omega), if_neg (fun q => q e107), if_pos (by rw [em]; omega)]
                            rw [e] at h
                            exact h
                      · have e107 : ¬ A (4 * t + p) = 4096 := h206
                        refine xi_bipush (v := (-9)) dX10_lack_209 (by decide) ?_
                        refine xi_iret (v := (-9)) dX10_lack_211 rfl ?_
                        have z42 := (ub_42 b).mp ((lg_cmp_eq _ _).mp h51)
                        have e17 : ub b / 17179869184 = msumU (ub b) := by omega
                        have h27 : mokU (ub b) = true := by unfold mokU mok; simp; omega
                        have e : mrefuse G S0 now late A sq p (ub b) = (-9) := by
                          unfold mrefuse
                          rw [← et]
                          rw [if_neg (fun q => q e17), if_neg (by rw [h27]; decide), if_neg (fun q => q h147), if_neg (by omega), if_neg (by omega), if_pos (fun q => e107 q)]
                        rw [e] at h
                        exact h
                    · skip
                      refine xi_bipush (v := (-8)) dX10_lack_189 (by decide) ?_
                      refine xi_iret (v := (-8)) dX10_lack_191 rfl ?_
                      have z42 := (ub_42 b).mp ((lg_cmp_eq _ _).mp h51)
                      have e17 : ub b / 17179869184 = msumU (ub b) := by omega
                      have h27 : mokU (ub b) = true := by unfold mokU mok; simp; omega
                      have e : mrefuse G S0 now late A sq p (ub b) = (-8) := by
                        unfold mrefuse
                        rw [← et]
                        rw [if_neg (fun q => q e17), if_neg (by rw [h27]; decide), if_neg (fun q => q h147), if_neg (by omega), if_pos (by omega)]
                      rw [e] at h
                      exact h
                · skip
                  refine xi_bipush (v := (-7)) dX10_lack_167 (by decide) ?_
                  refine xi_iret (v := (-7)) dX10_lack_169 rfl ?_
                  have z42 := (ub_42 b).mp ((lg_cmp_eq _ _).mp h51)
                  have e17 : ub b / 17179869184 = msumU (ub b) := by omega
                  have h27 : mokU (ub b) = true := by unfold mokU mok; simp; omega
                  have e : mrefuse G S0 now late A sq p (ub b) = (-7) := by
                    unfold mrefuse
                    rw [← et]
                    rw [if_neg (fun q => q e17), if_neg (by rw [h27]; decide), if_neg (fun q => q h147), if_pos (by omega)]
                  rw [e] at h
                  exact h
              · skip
                refine xi_bipush (v := (-6)) dX10_lack_150 (by decide) ?_
                refine xi_iret (v := (-6)) dX10_lack_152 rfl ?_
                have z42 := (ub_42 b).mp ((lg_cmp_eq _ _).mp h51)
                have e17 : ub b / 17179869184 = msumU (ub b) := by omega
                have h27 : mokU (ub b) = true := by unfold mokU mok; simp; omega
                have e : mrefuse G S0 now late A sq p (ub b) = (-6) := by
                  unfold mrefuse
                  rw [← et]
                  rw [if_neg (fun q => q e17), if_neg (by rw [h27]; decide), if_pos h147]
                rw [e] at h
                exact h
            · skip
              refine xi_iload dX10_lack_119 rfl ?_
              refine xn_if_eq (ub b % 16) 136 dX10_lack_121 (by decide) rfl (by omega) (fun h121 => ?_) (fun h121 => ?_)
              · skip
                refine xi_bipush (v := (-3)) dX10_lack_136 (by decide) ?_
                refine xi_iret (v := (-3)) dX10_lack_138 rfl ?_
                have z42 := (ub_42 b).mp ((lg_cmp_eq _ _).mp h51)
                have e17 : ub b / 17179869184 = msumU (ub b) := by omega
                have h27 : mokU (ub b) = false := by unfold mokU mok; simp; omega
                have e : mrefuse G S0 now late A sq p (ub b) = (-3) := by
                  unfold mrefuse
                  rw [← et]
                  rw [if_neg (fun q => q e17), if_pos h27]
                rw [e] at h
                exact h
              · skip
                refine xi_iload dX10_lack_124 rfl ?_
                refine xi_iconst (v := 4) dX10_lack_126 rfl ?_
                refine xn_icmp_eq (ub b % 16) 4 136 dX10_lack_127 (by decide) rfl rfl (by omega) (by omega) (fun h127 => ?_) (fun h127 => ?_)
                · skip
                  refine xi_bipush (v := (-3)) dX10_lack_136 (by decide) ?_
                  refine xi_iret (v := (-3)) dX10_lack_138 rfl ?_
                  have z42 := (ub_42 b).mp ((lg_cmp_eq _ _).mp h51)
                  have e17 : ub b / 17179869184 = msumU (ub b) := by omega
                  have h27 : mokU (ub b) = false := by unfold mokU mok; simp; omega
                  have e : mrefuse G S0 now late A sq p (ub b) = (-3) := by
                    unfold mrefuse
                    rw [← et]
                    rw [if_neg (fun q => q e17), if_pos h27]
                  rw [e] at h
                  exact h
                · skip
                  refine xi_iload dX10_lack_130 rfl ?_
                  refine xi_iconst (v := 5) dX10_lack_132 rfl ?_
                  refine xn_icmp_ne (ub b % 16) 5 139 dX10_lack_133 (by decide) rfl rfl (by omega) (by omega) (fun h133 => ?_) (fun h133 => ?_)
                  · skip
                    refine xi_iload dX10_lack_139 rfl ?_
                    refine xi_aload_n dX10_lack_141 rfl ?_
                    refine xi_getR dX10_lack_142 fgX10_52 mm0 rfl ?_
                    refine xi_iload_n dX10_lack_145 rfl ?_
                    refine xe_iald (v := nI (sq p)) p dX10_lack_146 mm9 (by decide) rfl (by omega) (hNQ p (by omega)) ?_
                    refine xn_icmp_eq (ub b / 67108864 % 256) (sq p) 153 dX10_lack_147 (by decide) rfl rfl (by omega) (by omega) (fun h147 => ?_) (fun h147 => ?_)
                    · skip
                      refine xi_iload dX10_lack_153 rfl ?_
                      refine xi_aload_n dX10_lack_155 rfl ?_
                      refine xe_getI (v := nI now) dX10_lack_156 fgX10_110 mm0 rfl hno ?_
                      refine xi_aload_n dX10_lack_159 rfl ?_
                      refine xe_getI (v := nI late) dX10_lack_160 fgX10_32 mm0 rfl hla ?_
                      refine xi_isub dX10_lack_163 ?_
                      refine xs_icmp_ge t now late 170 dX10_lack_164 (by decide) rfl rfl (by omega) (by omega) (by omega) (fun h164 => ?_) (fun h164 => ?_)
                      · skip
                        refine xi_iload dX10_lack_170 rfl ?_
                        refine xi_aload_n dX10_lack_172 rfl ?_
                        refine xe_getI (v := nI now) dX10_lack_173 fgX10_110 mm0 rfl hno ?_
                        refine xi_iconst (v := 2) dX10_lack_176 rfl ?_
                        refine xe_iadd dX10_lack_177 (v := nI (now + 2)) (nI_add now 2) ?_
                        refine xn_icmp_gt t (now + 2) 189 dX10_lack_178 (by decide) rfl rfl (by omega) (by omega) (fun h178 => ?_) (fun h178 => ?_)
                        · skip
                          refine xi_bipush (v := (-8)) dX10_lack_189 (by decide) ?_
                          refine xi_iret (v := (-8)) dX10_lack_191 rfl ?_
                          have z42 := (ub_42 b).mp ((lg_cmp_eq _ _).mp h51)
                          have e17 : ub b / 17179869184 = msumU (ub b) := by omega
                          have h27 : mokU (ub b) = true := by unfold mokU mok; simp; omega
                          have e : mrefuse G S0 now late A sq p (ub b) = (-8) := by
                            unfold mrefuse
                            rw [← et]
                            rw [if_neg (fun q => q e17), if_neg (by rw [h27]; decide), if_neg (fun q => q h147), if_neg (by omega), if_pos (by omega)]
                          rw [e] at h
                          exact h
                        · skip
                          refine xi_iload dX10_lack_181 rfl ?_
                          refine xi_sipush (v := 499) dX10_lack_183 (by decide) ?_
                          refine xn_icmp_le t 499 192 dX10_lack_186 (by decide) rfl rfl (by omega) (by omega) (fun h186 => ?_) (fun h186 => ?_)
                          · skip
                            refine xi_aload_n dX10_lack_192 rfl ?_
                            refine xi_getR dX10_lack_193 fgX10_42 mm0 rfl ?_
                            refine xi_iconst (v := 4) dX10_lack_196 rfl ?_
                            refine xi_iload dX10_lack_197 rfl ?_
                            refine xe_imul dX10_lack_199 (v := nI (4 * t)) (pk_mul 4 t) ?_
                            refine xi_iload_n dX10_lack_200 rfl ?_
                            refine xe_iadd dX10_lack_201 (v := nI (4 * t + p)) (nI_add (4 * t) p) ?_
                            refine xe_iald (v := nI (A (4 * t + p))) (4 * t + p) dX10_lack_202 mm6 (by decide) rfl (by omega) (hNA (4 * t + p) (by omega)) ?_
                            refine xi_sipush (v := 4096) dX10_lack_203 (by decide) ?_
                            refine xn_icmp_eq (A (4 * t + p)) 4096 212 dX10_lack_206 (by decide) rfl rfl (by omega) (by omega) (fun h206 => ?_) (fun h206 => ?_)
                            · have e107 : A (4 * t + p) = 4096 := h206
                              refine xi_bipush (v := 112) dX10_lack_212 (by decide) ?_
                              refine xi_iload dX10_lack_214 rfl ?_
                              refine xi_aload_n dX10_lack_216 rfl ?_
                              refine xe_getI (v := nI now) dX10_lack_217 fgX10_110 mm0 rfl hno ?_
                              refine xn_icmp_ge t now 228 dX10_lack_220 (by decide) rfl rfl (by omega) (by omega) (fun h220 => ?_) (fun h220 => ?_)
                              · skip
                                refine xi_aload_n dX10_lack_228 rfl ?_
                                refine xe_getI (v := nI now) dX10_lack_229 fgX10_110 mm0 rfl hno ?_
                                obtain ⟨sk, esk⟩ : ∃ sk, sk = 112 * now := ⟨_, rfl⟩
                                have hSk : RM G (Zf G A S0 now) M sk := by rw [esk]; exact hNS.1 now (by omega)
                                have hwk : wS G (Zf G A S0 now) := wS_Zf hW hw0 now
                                have em : Zf G A S0 (min t now) = Zf G A S0 now := by rw [show min t now = now by omega]
                                have hskb : sk ≤ 56000 := by omega
                                refine xe_imul dX10_lack_232 (v := nI sk) ((pk_mul 112 now).trans (congrArg nI esk.symm)) ?_
                                refine xi_bipush (v := 6) dX10_lack_233 (by decide) ?_
                                refine xi_iload_n dX10_lack_235 rfl ?_
                                refine xe_imul dX10_lack_236 (v := nI (6 * p)) (pk_mul 6 p) ?_
                                refine xe_iadd dX10_lack_237 (v := nI (sk + (6 * p))) (nI_add sk (6 * p)) ?_
                                refine xi_istore (lv' := [some (.ref 0), some (.int (nI p)), some (.long b), none, some (.int (nI (ub b % 16))), some (.int (nI (ub b / 16 % 4))), some (.int (nI (ub b / 64 % 16))), some (.int (nI t)), some (.int (nI (ub b / 67108864 % 256))), some (.int (nI (sk + (6 * p))))]) dX10_lack_238 (by decide) rfl ?_
                                refine xi_aload_n dX10_lack_240 rfl ?_
                                refine xi_getR dX10_lack_241 fgX10_39 mm0 rfl ?_
                                refine xi_iload dX10_lack_244 rfl ?_
                                refine xat 246 rfl ?_
                                refine xi_iconst (v := 1) dX10_lack_246 rfl ?_
                                refine xe_iadd dX10_lack_247 (v := nI (sk + (6 * p) + 1)) (nI_add (sk + (6 * p)) 1) ?_
                                have lq := hwk.2.1 p (by omega)
                                refine xe_iald (v := nI (sL (Zf G A S0 now) p)) (sk + (6 * p) + 1) dX10_lack_248 mm5 (by decide) rfl (by omega) (rmL hSk (by omega)) ?_
                                refine xn_if_ne (sL (Zf G A S0 now) p) 255 dX10_lack_249 (by decide) rfl (by omega) (fun h249 => ?_) (fun h249 => ?_)
                                · skip
                                  refine xi_iload dX10_lack_255 rfl ?_
                                  refine xi_aload_n dX10_lack_257 rfl ?_
                                  refine xe_getI (v := nI now) dX10_lack_258 fgX10_110 mm0 rfl hno ?_
                                  refine xn_icmp_gt t now 286 dX10_lack_261 (by decide) rfl rfl (by omega) (by omega) (fun h261 => ?_) (fun h261 => ?_)
                                  · skip
                                    refine xi_iconst (v := 0) dX10_lack_286 rfl ?_
                                    refine xi_iret (v := 0) dX10_lack_287 rfl ?_
                                    have n8 : ¬ (t ≤ now ∧ mforb G (Zf G A S0 t) p (ub b % 1024) = true) := fun q => by first | omega | (have q2 := q.2; rw [h278] at q2; cases q2)
                                    have z42 := (ub_42 b).mp ((lg_cmp_eq _ _).mp h51)
                                    have e17 : ub b / 17179869184 = msumU (ub b) := by omega
                                    have h27 : mokU (ub b) = true := by unfold mokU mok; simp; omega
                                    have e : mrefuse G S0 now late A sq p (ub b) = 0 := by
                                      unfold mrefuse
                                      rw [← et]
                                      rw [if_neg (fun q => q e17), if_neg (by rw [h27]; decide), if_neg (fun q => q h147), if_neg (by omega), if_neg (by omega), if_neg (fun q => q e107), if_neg (by rw [em]; omega), if_neg (fun q => n8 q)]
                                    rw [e] at h
                                    exact h
                                  · skip
                                    refine xi_aload_n dX10_lack_264 rfl ?_
                                    refine xi_bipush (v := 112) dX10_lack_265 (by decide) ?_
                                    refine xi_iload dX10_lack_267 rfl ?_
                                    refine xe_imul dX10_lack_269 (v := nI (112 * t)) (pk_mul 112 t) ?_
                                    refine xi_iload_n dX10_lack_270 rfl ?_
                                    refine xi_iload dX10_lack_271 rfl ?_
                                    refine xi_iload dX10_lack_273 rfl ?_
                                    refine xi_callV [.int (nI (112 * t)), .int (nI p), .int (nI (ub b % 16)), .int (nI (ub b / 16 % 4))] [] dX10_lack_275 zX10_isCrafted mlX10_237 mm0 rfl rfl rfl rfl rfl (Nat.le_of_ble_eq_true rfl) (Nat.le_of_ble_eq_true rfl) ⟨by decide, by decide⟩ ?_
                                    refine n_craft2 hW hG (s := 112 * t) (by omega) (hNS.1 t (by omega)) (wS_Zf hW hw0 t) (p := p) (c := ub b % 1024) (by omega) (by omega) (ub_mod _).1.symm (ub_mod _).2.1.symm ?_
                                    show WP _ _ 278 _ [.int (xb (mforb G (Zf G A S0 t) p (ub b % 1024)))] _ _
                                    refine xb_if_eq (mforb G (Zf G A S0 t) p (ub b % 1024)) 286 dX10_lack_278 (by decide) rfl (fun h278 => ?_) (fun h278 => ?_)
                                    · skip
                                      refine xi_iconst (v := 0) dX10_lack_286 rfl ?_
                                      refine xi_iret (v := 0) dX10_lack_287 rfl ?_
                                      have n8 : ¬ (t ≤ now ∧ mforb G (Zf G A S0 t) p (ub b % 1024) = true) := fun q => by first | omega | (have q2 := q.2; rw [h278] at q2; cases q2)
                                      have z42 := (ub_42 b).mp ((lg_cmp_eq _ _).mp h51)
                                      have e17 : ub b / 17179869184 = msumU (ub b) := by omega
                                      have h27 : mokU (ub b) = true := by unfold mokU mok; simp; omega
                                      have e : mrefuse G S0 now late A sq p (ub b) = 0 := by
                                        unfold mrefuse
                                        rw [← et]
                                        rw [if_neg (fun q => q e17), if_neg (by rw [h27]; decide), if_neg (fun q => q h147), if_neg (by omega), if_neg (by omega), if_neg (fun q => q e107), if_neg (by rw [em]; omega), if_neg (fun q => n8 q)]
                                      rw [e] at h
                                      exact h
                                    · skip
                                      refine xi_bipush (v := (-16)) dX10_lack_281 (by decide) ?_
                                      refine xi_goto 287 dX10_lack_283 (by decide) ?_
                                      refine xi_iret (v := (-16)) dX10_lack_287 rfl ?_
                                      have z42 := (ub_42 b).mp ((lg_cmp_eq _ _).mp h51)
                                      have e17 : ub b / 17179869184 = msumU (ub b) := by omega
                                      have h27 : mokU (ub b) = true := by unfold mokU mok; simp; omega
                                      have e : mrefuse G S0 now late A sq p (ub b) = (-16) := by
                                        unfold mrefuse
                                        rw [← et]
                                        rw [if_neg (fun q => q e17), if_neg (by rw [h27]; decide), if_neg (fun q => q h147), if_neg (by omega), if_neg (by omega), if_neg (fun q => q e107), if_neg (by rw [em]; omega), if_pos ⟨by omega, h278⟩]
                                      rw [e] at h
                                      exact h
                                · skip
                                  refine xi_bipush (v := (-10)) dX10_lack_252 (by decide) ?_
                                  refine xi_iret (v := (-10)) dX10_lack_254 rfl ?_
                                  have z42 := (ub_42 b).mp ((lg_cmp_eq _ _).mp h51)
                                  have e17 : ub b / 17179869184 = msumU (ub b) := by omega
                                  have h27 : mokU (ub b) = true := by unfold mokU mok; simp; omega
                                  have e : mrefuse G S0 now late A sq p (ub b) = (-10) := by
                                    unfold mrefuse
                                    rw [← et]
                                    rw [if_neg (fun q => q e17), if_neg (by rw [h27]; decide), if_neg (fun q => q h147), if_neg (by omega), if_neg (by omega), if_neg (fun q => q e107), if_pos (by rw [em]; omega)]
                                  rw [e] at h
                                  exact h
                              · skip
                                refine xi_iload dX10_lack_223 rfl ?_
                                refine xi_goto 232 dX10_lack_225 (by decide) ?_
                                obtain ⟨sk, esk⟩ : ∃ sk, sk = 112 * t := ⟨_, rfl⟩
                                have hSk : RM G (Zf G A S0 t) M sk := by rw [esk]; exact hNS.1 t (by omega)
                                have hwk : wS G (Zf G A S0 t) := wS_Zf hW hw0 t
                                have em : Zf G A S0 (min t now) = Zf G A S0 t := by rw [show min t now = t by omega]
                                have hskb : sk ≤ 56000 := by omega
                                refine xe_imul dX10_lack_232 (v := nI sk) ((pk_mul 112 t).trans (congrArg nI esk.symm)) ?_
                                refine xi_bipush (v := 6) dX10_lack_233 (by decide) ?_
                                refine xi_iload_n dX10_lack_235 rfl ?_
                                refine xe_imul dX10_lack_236 (v := nI (6 * p)) (pk_mul 6 p) ?_
                                refine xe_iadd dX10_lack_237 (v := nI (sk + (6 * p))) (nI_add sk (6 * p)) ?_
                                refine xi_istore (lv' := [some (.ref 0), some (.int (nI p)), some (.long b), none, some (.int (nI (ub b % 16))), some (.int (nI (ub b / 16 % 4))), some (.int (nI (ub b / 64 % 16))), some (.int (nI t)), some (.int (nI (ub b / 67108864 % 256))), some (.int (nI (sk + (6 * p))))]) dX10_lack_238 (by decide) rfl ?_
                                refine xi_aload_n dX10_lack_240 rfl ?_
                                refine xi_getR dX10_lack_241 fgX10_39 mm0 rfl ?_
                                refine xi_iload dX10_lack_244 rfl ?_
                                refine xi_iconst (v := 1) dX10_lack_246 rfl ?_
                                refine xe_iadd dX10_lack_247 (v := nI (sk + (6 * p) + 1)) (nI_add (sk + (6 * p)) 1) ?_
                                refine xat 248 rfl ?_
                                have lq := hwk.2.1 p (by omega)
                                refine xe_iald (v := nI (sL (Zf G A S0 t) p)) (sk + (6 * p) + 1) dX10_lack_248 mm5 (by decide) rfl (by omega) (rmL hSk (by omega)) ?_
                                refine xn_if_ne (sL (Zf G A S0 t) p) 255 dX10_lack_249 (by decide) rfl (by omega) (fun h249 => ?_) (fun h249 => ?_)
                                · skip
                                  refine xi_iload dX10_lack_255 rfl ?_
                                  refine xi_aload_n dX10_lack_257 rfl ?_
                                  refine xe_getI (v := nI now) dX10_lack_258 fgX10_110 mm0 rfl hno ?_
                                  refine xn_icmp_gt t now 286 dX10_lack_261 (by decide) rfl rfl (by omega) (by omega) (fun h261 => ?_) (fun h261 => ?_)
                                  · skip
                                    refine xi_iconst (v := 0) dX10_lack_286 rfl ?_
                                    refine xi_iret (v := 0) dX10_lack_287 rfl ?_
                                    have n8 : ¬ (t ≤ now ∧ mforb G (Zf G A S0 t) p (ub b % 1024) = true) := fun q => by first | omega | (have q2 := q.2; rw [h278] at q2; cases q2)
                                    have z42 := (ub_42 b).mp ((lg_cmp_eq _ _).mp h51)
                                    have e17 : ub b / 17179869184 = msumU (ub b) := by omega
                                    have h27 : mokU (ub b) = true := by unfold mokU mok; simp; omega
                                    have e : mrefuse G S0 now late A sq p (ub b) = 0 := by
                                      unfold mrefuse
                                      rw [← et]
                                      rw [if_neg (fun q => q e17), if_neg (by rw [h27]; decide), if_neg (fun q => q h147), if_neg (by omega), if_neg (by omega), if_neg (fun q => q e107), if_neg (by rw [em]; omega), if_neg (fun q => n8 q)]
                                    rw [e] at h
                                    exact h
                                  · skip
                                    refine xi_aload_n dX10_lack_264 rfl ?_
                                    refine xi_bipush (v := 112) dX10_lack_265 (by decide) ?_
                                    refine xi_iload dX10_lack_267 rfl ?_
                                    refine xe_imul dX10_lack_269 (v := nI (112 * t)) (pk_mul 112 t) ?_
                                    refine xi_iload_n dX10_lack_270 rfl ?_
                                    refine xi_iload dX10_lack_271 rfl ?_
                                    refine xi_iload dX10_lack_273 rfl ?_
                                    refine xi_callV [.int (nI (112 * t)), .int (nI p), .int (nI (ub b % 16)), .int (nI (ub b / 16 % 4))] [] dX10_lack_275 zX10_isCrafted mlX10_237 mm0 rfl rfl rfl rfl rfl (Nat.le_of_ble_eq_true rfl) (Nat.le_of_ble_eq_true rfl) ⟨by decide, by decide⟩ ?_
                                    refine n_craft2 hW hG (s := 112 * t) (by omega) (hNS.1 t (by omega)) (wS_Zf hW hw0 t) (p := p) (c := ub b % 1024) (by omega) (by omega) (ub_mod _).1.symm (ub_mod _).2.1.symm ?_
                                    show WP _ _ 278 _ [.int (xb (mforb G (Zf G A S0 t) p (ub b % 1024)))] _ _
                                    refine xb_if_eq (mforb G (Zf G A S0 t) p (ub b % 1024)) 286 dX10_lack_278 (by decide) rfl (fun h278 => ?_) (fun h278 => ?_)
                                    · skip
                                      refine xi_iconst (v := 0) dX10_lack_286 rfl ?_
                                      refine xi_iret (v := 0) dX10_lack_287 rfl ?_
                                      have n8 : ¬ (t ≤ now ∧ mforb G (Zf G A S0 t) p (ub b % 1024) = true) := fun q => by first | omega | (have q2 := q.2; rw [h278] at q2; cases q2)
                                      have z42 := (ub_42 b).mp ((lg_cmp_eq _ _).mp h51)
                                      have e17 : ub b / 17179869184 = msumU (ub b) := by omega
                                      have h27 : mokU (ub b) = true := by unfold mokU mok; simp; omega
                                      have e : mrefuse G S0 now late A sq p (ub b) = 0 := by
                                        unfold mrefuse
                                        rw [← et]
                                        rw [if_neg (fun q => q e17), if_neg (by rw [h27]; decide), if_neg (fun q => q h147), if_neg (by omega), if_neg (by omega), if_neg (fun q => q e107), if_neg (by rw [em]; omega), if_neg (fun q => n8 q)]
                                      rw [e] at h
                                      exact h
                                    · skip
                                      refine xi_bipush (v := (-16)) dX10_lack_281 (by decide) ?_
                                      refine xi_goto 287 dX10_lack_283 (by decide) ?_
                                      refine xi_iret (v := (-16)) dX10_lack_287 rfl ?_
                                      have z42 := (ub_42 b).mp ((lg_cmp_eq _ _).mp h51)
                                      have e17 : ub b / 17179869184 = msumU (ub b) := by omega
                                      have h27 : mokU (ub b) = true := by unfold mokU mok; simp; omega
                                      have e : mrefuse G S0 now late A sq p (ub b) = (-16) := by
                                        unfold mrefuse
                                        rw [← et]
                                        rw [if_neg (fun q => q e17), if_neg (by rw [h27]; decide), if_neg (fun q => q h147), if_neg (by omega), if_neg (by omega), if_neg (fun q => q e107), if_neg (by rw [em]; omega), if_pos ⟨by omega, h278⟩]
                                      rw [e] at h
                                      exact h
                                · skip
                                  refine xi_bipush (v := (-10)) dX10_lack_252 (by decide) ?_
                                  refine xi_iret (v := (-10)) dX10_lack_254 rfl ?_
                                  have z42 := (ub_42 b).mp ((lg_cmp_eq _ _).mp h51)
                                  have e17 : ub b / 17179869184 = msumU (ub b) := by omega
                                  have h27 : mokU (ub b) = true := by unfold mokU mok; simp; omega
                                  have e : mrefuse G S0 now late A sq p (ub b) = (-10) := by
                                    unfold mrefuse
                                    rw [← et]
                                    rw [if_neg (fun q => q e17), if_neg (by rw [h27]; decide), if_neg (fun q => q h147), if_neg (by omega), if_neg (by omega), if_neg (fun q => q e107), if_pos (by rw [em]; omega)]
                                  rw [e] at h
                                  exact h
                            · have e107 : ¬ A (4 * t + p) = 4096 := h206
                              refine xi_bipush (v := (-9)) dX10_lack_209 (by decide) ?_
                              refine xi_iret (v := (-9)) dX10_lack_211 rfl ?_
                              have z42 := (ub_42 b).mp ((lg_cmp_eq _ _).mp h51)
                              have e17 : ub b / 17179869184 = msumU (ub b) := by omega
                              have h27 : mokU (ub b) = true := by unfold mokU mok; simp; omega
                              have e : mrefuse G S0 now late A sq p (ub b) = (-9) := by
                                unfold mrefuse
                                rw [← et]
                                rw [if_neg (fun q => q e17), if_neg (by rw [h27]; decide), if_neg (fun q => q h147), if_neg (by omega), if_neg (by omega), if_pos (fun q => e107 q)]
                              rw [e] at h
                              exact h
                          · skip
                            refine xi_bipush (v := (-8)) dX10_lack_189 (by decide) ?_
                            refine xi_iret (v := (-8)) dX10_lack_191 rfl ?_
                            have z42 := (ub_42 b).mp ((lg_cmp_eq _ _).mp h51)
                            have e17 : ub b / 17179869184 = msumU (ub b) := by omega
                            have h27 : mokU (ub b) = true := by unfold mokU mok; simp; omega
                            have e : mrefuse G S0 now late A sq p (ub b) = (-8) := by
                              unfold mrefuse
                              rw [← et]
                              rw [if_neg (fun q => q e17), if_neg (by rw [h27]; decide), if_neg (fun q => q h147), if_neg (by omega), if_pos (by omega)]
                            rw [e] at h
                            exact h
                      · skip
                        refine xi_bipush (v := (-7)) dX10_lack_167 (by decide) ?_
                        refine xi_iret (v := (-7)) dX10_lack_169 rfl ?_
                        have z42 := (ub_42 b).mp ((lg_cmp_eq _ _).mp h51)
                        have e17 : ub b / 17179869184 = msumU (ub b) := by omega
                        have h27 : mokU (ub b) = true := by unfold mokU mok; simp; omega
                        have e : mrefuse G S0 now late A sq p (ub b) = (-7) := by
                          unfold mrefuse
                          rw [← et]
                          rw [if_neg (fun q => q e17), if_neg (by rw [h27]; decide), if_neg (fun q => q h147), if_pos (by omega)]
                        rw [e] at h
                        exact h
                    · skip
                      refine xi_bipush (v := (-6)) dX10_lack_150 (by decide) ?_
                      refine xi_iret (v := (-6)) dX10_lack_152 rfl ?_
                      have z42 := (ub_42 b).mp ((lg_cmp_eq _ _).mp h51)
                      have e17 : ub b / 17179869184 = msumU (ub b) := by omega
                      have h27 : mokU (ub b) = true := by unfold mokU mok; simp; omega
                      have e : mrefuse G S0 now late A sq p (ub b) = (-6) := by
                        unfold mrefuse
                        rw [← et]
                        rw [if_neg (fun q => q e17), if_neg (by rw [h27]; decide), if_pos h147]
                      rw [e] at h
                      exact h
                  · skip
                    refine xi_bipush (v := (-3)) dX10_lack_136 (by decide) ?_
                    refine xi_iret (v := (-3)) dX10_lack_138 rfl ?_
                    have z42 := (ub_42 b).mp ((lg_cmp_eq _ _).mp h51)
                    have e17 : ub b / 17179869184 = msumU (ub b) := by omega
                    have h27 : mokU (ub b) = false := by unfold mokU mok; simp; omega
                    have e : mrefuse G S0 now late A sq p (ub b) = (-3) := by
                      unfold mrefuse
                      rw [← et]
                      rw [if_neg (fun q => q e17), if_pos h27]
                    rw [e] at h
                    exact h
    · skip
      refine xi_bipush (v := (-5)) dX10_lack_93 (by decide) ?_
      refine xi_iret (v := (-5)) dX10_lack_95 rfl ?_
      have e17 : ¬ ub b / 17179869184 = msumU (ub b) := by first | omega | (intro z; exact h51 ((lg_cmp_eq _ _).mpr ((ub_42 b).mpr (by omega))))
      have e : mrefuse G S0 now late A sq p (ub b) = (-5) := by
        unfold mrefuse
        rw [← et]
        rw [if_pos (fun q => e17 q)]
      rw [e] at h
      exact h

