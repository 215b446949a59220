/-- at first: the ground, the first state, all else -/
def g0 (a b p : Nat) : xG := (a, b, p, p, 0, fun _ => 0, fun _ => 0, fun _ => 0, fun _ => 0)
def c0 (a b p : Nat) : Nat := if p = 0 then 0 else if p = 1 then a * b - 1 else if p = 2 then a - 1 else (b - 1) * a
def s0 (a b P : Nat) : xS := (fun n => if n < P then nI (c0 a b n) else -1, fun n => if n < P then 5 else 0, fun _ => none, fun _ => 1, fun _ => 0, fun _ => none, fun _ => 0, fun _ => 0, fun _ => 0)
def o0 : xO := (0, 0, 0, fun k => if k = 0 then 1048576 else 0)
def w0 : xw := (fun _ => o0, fun _ => none, fun _ => none)
def x0 (a b p : Nat) (tp : Nat → xT) : xX := (g0 a b p, s0 a b p, 0, 4, 1048, fun _ => 4096, fun _ => false, fun _ => 0, 0, 0, 0, (0, 0, 0, 0, fun _ => 0), w0, tp)
def st_begin (X : xX) (x y z : Int32) : Int32 × xX := match xrg x 3 10 with
  | none => (-1, X)
  | some a => match xrg y 3 10 with
    | none => (-1, X)
    | some b => match xrg z 1 4 with
      | none => (-1, X)
      | some p => (nI (a * b), x0 a b p (xtp X))
theorem wG_0 {a b p : Nat} (ha : 3 ≤ a) (ha2 : a ≤ 10) (hb : 3 ≤ b) (hb2 : b ≤ 10) (hp : 1 ≤ p) (hp2 : p ≤ 4) : wG (g0 a b p) := by
  have h1 : a * b ≤ 10 * 10 := Nat.mul_le_mul ha2 hb2
  have h2 : 3 * 3 ≤ a * b := Nat.mul_le_mul ha hb
  exact ⟨ha, ha2, hb, hb2, hp, hp2, Nat.le_refl _, by show p ≤ 16; omega, by show 0 ≤ 8; omega, fun _ _ => Nat.zero_le _, fun k _ h => by rcases h with h | h <;> (change 0 = _ at h; omega), fun _ _ => rfl, fun n h1 h2 => absurd h2 (Nat.not_lt.mpr h1), h1, h2, fun d h => absurd h (Nat.not_lt_zero _)⟩
theorem c0_lt {a b p : Nat} (ha : 3 ≤ a) (hb : 3 ≤ b) : c0 a b p < a * b := by
  have h2 : 3 * 3 ≤ a * b := Nat.mul_le_mul ha hb
  have h3 : a * 3 ≤ a * b := Nat.mul_le_mul_left a hb
  have h4 : (b - 1) * a + a = a * b := by
    rw [← Nat.succ_mul, show (b - 1).succ = b by omega, Nat.mul_comm]
  unfold c0
  split
  · omega
  split
  · omega
  split
  · omega
  · omega
theorem wS_0 {a b p : Nat} (ha : 3 ≤ a) (hb : 3 ≤ b) : wS (g0 a b p) (s0 a b p) := by
  refine ⟨fun n hn _ => ⟨c0 a b n, c0_lt ha hb, if_pos hn⟩, fun n hn => ?_, fun n _ _ => Nat.zero_le _, fun _ _ => Nat.zero_le _, fun _ _ j h => by cases h⟩
  show (if n < p then 5 else 0) ≤ 5
  split <;> omega
theorem wO_0 : wO o0 := ⟨Nat.zero_le _, Nat.zero_le _, Nat.zero_le _, fun k => by show (if k = 0 then 1048576 else 0) ≤ 1048576; split <;> omega, fun k hk => if_neg (by change 0 < k at hk; omega)⟩
theorem wX_0 {a b p : Nat} {tp : Nat → xT} (ha : 3 ≤ a) (ha2 : a ≤ 10) (hb : 3 ≤ b) (hb2 : b ≤ 10) (hp : 1 ≤ p) (hp2 : p ≤ 4) (ht : ∀ d, wT (tp d)) : wX (x0 a b p tp) :=
  ⟨wG_0 ha ha2 hb hb2 hp hp2, wS_0 ha hb, Nat.zero_le _, by decide, by decide, fun _ => Or.inr rfl, fun _ => (show 0 < 256 by decide), ((mcnt_0 2000).mpr (fun _ _ => rfl)).symm, Nat.zero_le _, Nat.zero_le _, ⟨fun _ => wO_0, (fun _ _ h => nomatch h), fun _ _ => rfl, (fun _ _ h => nomatch h)⟩, ht, fun _ => rfl, fun _ => rfl⟩
set_option maxHeartbeats 4000000 in
set_option maxRecDepth 100000 in
theorem o_wipe {M : xM} {Q : Option Value → xM → Prop} {r : Nat} (hr : isOd r) (h : ∀ M2, FO r M M2 → CO o0 M2 r → Q none M2) : WP shC mX4_wipe 0 [some (.ref r)] [] M Q := by
  refine xi_aload_n dX4_wipe_0 rfl ?_
  refine xi_getR dX4_wipe_1 fgX4_9 (odo hr) rfl ?_
  refine xi_iconst (v := 0) dX4_wipe_4 rfl ?_
  refine xi_callS [.ref (r + 1), .int 0] [] dX4_wipe_5 zJ7_fill_53178 mlX4_15 rfl rfl rfl (Nat.le_of_ble_eq_true rfl) (Nat.le_of_ble_eq_true rfl) ⟨by decide, by decide⟩ ?_
  refine j_fillI (v := 0) (oda hr) (by decide) (fun M1 F1 z1 => ?_)
  show WP _ _ 8 _ [] _ _
  refine xi_aload_n dX4_wipe_8 rfl ?_
  refine xi_getR dX4_wipe_9 fgX4_9 (odo hr) rfl ?_
  refine xi_iconst (v := 0) dX4_wipe_12 rfl ?_
  refine xi_ldc (v := 1048576) dX4_wipe_13 kcX4_21 ?_
  refine xe_iast 0 dX4_wipe_15 (oda hr) (by decide) rfl (by omega) ?_
  refine xi_aload_n dX4_wipe_16 rfl ?_
  refine xi_iconst (v := 0) dX4_wipe_17 rfl ?_
  refine xi_put dX4_wipe_18 fpX4_22 (odo hr) rfl ?_
  refine xi_aload_n dX4_wipe_21 rfl ?_
  refine xi_iconst (v := 0) dX4_wipe_22 rfl ?_
  refine xi_put dX4_wipe_23 fpX4_26 (odo hr) rfl ?_
  refine xat 26 rfl ?_
  refine xi_aload_n dX4_wipe_26 rfl ?_
  refine xi_iconst (v := 0) dX4_wipe_27 rfl ?_
  refine xi_put dX4_wipe_28 fpX4_29 (odo hr) rfl ?_
  refine xi_vret dX4_wipe_31 rfl ?_
  refine h _ ⟨fun a ha => ?_, ?_, fun a ha => ?_⟩ ⟨fun k hk => ?_, ?_, ?_, ?_⟩
  · rw [xf_o ha, xf_o ha, xf_o ha]; show M1.1 a = _; rw [F1.1]
  · show M1.2.2 = _; rw [F1.2.1]
  · rw [xf_a, xf_a, xf_a, xa_n ha, F1.2.2 a ha]
  · rw [xf_a, xf_a, xf_a, xa_s]
    show _ = nI (if k = 0 then 1048576 else 0)
    by_cases e : k = 0
    · rw [e, upd_s]; rfl
    · rw [upd_n e, if_neg e, z1 k hk]; rfl
  · rw [xf_k (by decide), xf_k (by decide), xf_s]; rfl
  · rw [xf_k (by decide), xf_s]; rfl
  · rw [xf_s]; rfl

set_option maxHeartbeats 4000000 in
set_option maxRecDepth 100000 in
theorem u_wipe {M : xM} {Q : Option Value → xM → Prop} {p : Nat} (hp : p < 4) (h : ∀ M2, FU (23 + 5 * p) M M2 → KWp w0 (fun _ => 0) p M2 → Q none M2) : WP shC mX7_wipe 0 [some (.ref (23 + 5 * p))] [] M Q := by
  refine xi_aload_n dX7_wipe_0 rfl ?_
  refine xi_getR dX7_wipe_1 fgX7_12 (suo (isSu_p (p := p) hp)) rfl ?_
  refine xi_callV [] [] dX7_wipe_4 zX4_wipe mlX7_21 (odo (su_o1 (isSu_p (p := p) hp))) rfl rfl rfl rfl rfl (Nat.le_of_ble_eq_true rfl) (Nat.le_of_ble_eq_true rfl) ⟨by decide, by decide⟩ ?_
  refine o_wipe (su_o1 (isSu_p hp)) (fun M1 F1 O1 => ?_)
  show WP _ _ 7 _ [] _ _
  refine xi_aload_n dX7_wipe_7 rfl ?_
  refine xi_getR dX7_wipe_8 fgX7_18 (suo (isSu_p (p := p) hp)) rfl ?_
  refine xi_callV [] [] dX7_wipe_11 zX4_wipe mlX7_21 (odo (su_o3 (isSu_p (p := p) hp))) rfl rfl rfl rfl rfl (Nat.le_of_ble_eq_true rfl) (Nat.le_of_ble_eq_true rfl) ⟨by decide, by decide⟩ ?_
  refine o_wipe (su_o3 (isSu_p hp)) (fun M2 F2 O2 => ?_)
  show WP _ _ 14 _ [] _ _
  refine xi_aload_n dX7_wipe_14 rfl ?_
  refine xi_iconst (v := 0) dX7_wipe_15 rfl ?_
  refine xi_put dX7_wipe_16 fpX7_24 (suo (isSu_p (p := p) hp)) rfl ?_
  refine xi_aload_n dX7_wipe_19 rfl ?_
  refine xi_iconst (v := 0) dX7_wipe_20 rfl ?_
  refine xi_put dX7_wipe_21 fpX7_28 (suo (isSu_p (p := p) hp)) rfl ?_
  refine xi_aload_n dX7_wipe_24 rfl ?_
  refine xi_iconst (v := (-1)) dX7_wipe_25 rfl ?_
  refine xi_put dX7_wipe_26 fpX7_31 (suo (isSu_p (p := p) hp)) rfl ?_
  refine xi_aload_n dX7_wipe_29 rfl ?_
  refine xi_iconst (v := (-1)) dX7_wipe_30 rfl ?_
  refine xat 31 rfl ?_
  refine xi_put dX7_wipe_31 fpX7_34 (suo (isSu_p (p := p) hp)) rfl ?_
  refine xi_vret dX7_wipe_34 rfl ?_
  refine h _ (fun a ha => ⟨?_, ?_, ?_⟩) ⟨?_, ?_, ?_, ?_, ?_, ?_⟩
  · rw [xf_o (by omega), xf_o (by omega), xf_o (by omega), xf_o (by omega), F2.1 a (by omega), F1.1 a (by omega)]
  · show M2.2.1 a = _; rw [F2.2.2 a (by omega), F1.2.2 a (by omega)]
  · show M2.2.2 a = _; rw [F2.2.1, F1.2.1]
  · exact (((O1.sm (sC2.fo F2 (by omega))).xf (by omega)).xf (by omega) |>.xf (by omega)).xf (by omega)
  · exact ((O2.xf (by omega)).xf (by omega) |>.xf (by omega)).xf (by omega)
  · rw [xf_k (by decide), xf_k (by decide), xf_k (by decide), xf_s]; rfl
  · rw [xf_k (by decide), xf_k (by decide), xf_s]; rfl
  · rw [xf_k (by decide), xf_s]; rfl
  · rw [xf_s]; rfl

set_option maxHeartbeats 4000000 in
set_option maxRecDepth 100000 in
theorem e_wipe {M : xM} {Q : Option Value → xM → Prop} (h : ∀ M2, (∀ a, ¬ a = 17 → M2.1 a = M.1 a) → M2.2 = M.2 → KE (0, 0, 0, 0, fun _ => 0) M2 → Q none M2) : WP shC mX2_wipe 0 [some (.ref 17)] [] M Q := by
  refine xi_aload_n dX2_wipe_0 rfl ?_
  refine xi_iconst (v := 0) dX2_wipe_1 rfl ?_
  refine xi_put dX2_wipe_2 fpX2_18 cc17 rfl ?_
  refine xi_aload_n dX2_wipe_5 rfl ?_
  refine xi_iconst (v := 0) dX2_wipe_6 rfl ?_
  refine xi_put dX2_wipe_7 fpX2_22 cc17 rfl ?_
  refine xi_aload_n dX2_wipe_10 rfl ?_
  refine xi_iconst (v := 0) dX2_wipe_11 rfl ?_
  refine xi_put dX2_wipe_12 fpX2_25 cc17 rfl ?_
  refine xi_aload_n dX2_wipe_15 rfl ?_
  refine xi_iconst (v := 0) dX2_wipe_16 rfl ?_
  refine xat 17 rfl ?_
  refine xi_put dX2_wipe_17 fpX2_28 cc17 rfl ?_
  refine xi_vret dX2_wipe_20 rfl ?_
  refine h _ (fun a ha => ?_) rfl ⟨?_, ?_, ?_, ?_, fun i hi => ?_⟩
  · rw [xf_o ha, xf_o ha, xf_o ha, xf_o ha]
  · rw [xf_k (by decide), xf_k (by decide), xf_k (by decide), xf_s]; rfl
  · rw [xf_k (by decide), xf_k (by decide), xf_s]; rfl
  · rw [xf_k (by decide), xf_s]; rfl
  · rw [xf_s]; rfl
  · exact absurd hi (by simp)

set_option maxHeartbeats 4000000 in
set_option maxRecDepth 100000 in
theorem g_wipe {M : xM} {Q : Option Value → xM → Prop} (h : ∀ M2, M2.1 = M.1 → M2.2.2 = M.2.2 → (∀ a, ¬ a = 14 → ¬ a = 15 → ¬ a = 16 → M2.2.1 a = M.2.1 a) → CLg (fun _ => 4096) (fun _ => 0) (fun _ => false) M2 → Q none M2) : WP shC mX3_wipe 0 [some (.ref 13)] [] M Q := by
  refine xi_aload_n dX3_wipe_0 rfl ?_
  refine xi_getR dX3_wipe_1 fgX3_9 cc13 rfl ?_
  refine xi_sipush (v := 4096) dX3_wipe_4 (by decide) ?_
  refine xi_callS [.ref 14, .int 4096] [] dX3_wipe_7 zJ7_fill_53178 mlX3_22 rfl rfl rfl (Nat.le_of_ble_eq_true rfl) (Nat.le_of_ble_eq_true rfl) ⟨by decide, by decide⟩ ?_
  refine j_fillI (v := 4096) cc14 (by decide) (fun M1 F1 z1 => ?_)
  show WP _ _ 10 _ [] _ _
  refine xi_aload_n dX3_wipe_10 rfl ?_
  refine xi_getR dX3_wipe_11 fgX3_15 cc13 rfl ?_
  refine xi_iconst (v := 0) dX3_wipe_14 rfl ?_
  refine xi_callS [.ref 15, .int 0] [] dX3_wipe_15 zJ7_fill_031fb mlX3_28 rfl rfl rfl (Nat.le_of_ble_eq_true rfl) (Nat.le_of_ble_eq_true rfl) ⟨by decide, by decide⟩ ?_
  refine j_fillB (v := 0) cc15 (by decide) (by decide) (fun M2 F2 z2 => ?_)
  show WP _ _ 18 _ [] _ _
  refine xi_aload_n dX3_wipe_18 rfl ?_
  refine xi_getR dX3_wipe_19 fgX3_19 cc13 rfl ?_
  refine xi_iconst (v := 0) dX3_wipe_22 rfl ?_
  refine xi_callS [.ref 16, .int 0] [] dX3_wipe_23 zJ7_fill_031fb mlX3_28 rfl rfl rfl (Nat.le_of_ble_eq_true rfl) (Nat.le_of_ble_eq_true rfl) ⟨by decide, by decide⟩ ?_
  refine j_fillB (v := 0) cc16 (by decide) (by decide) (fun M3 F3 z3 => ?_)
  show WP _ _ 26 _ [] _ _
  refine xi_vret dX3_wipe_26 rfl ?_
  refine h M3 (by rw [F3.1, F2.1, F1.1]) (by rw [F3.2.1, F2.2.1, F1.2.1]) (fun a a1 a2 a3 => by rw [F3.2.2 a a3, F2.2.2 a a2, F1.2.2 a a1]) ⟨fun i hi => ?_, fun i hi => ?_, fun i hi => ?_, fun _ => Nat.le_refl _, fun _ => Nat.zero_le _⟩
  · rw [F3.2.2 14 (by decide), F2.2.2 14 (by decide)]; exact z1 i hi
  · rw [F3.2.2 15 (by decide)]; exact z2 i hi
  · exact z3 i hi

set_option maxHeartbeats 4000000 in
set_option maxRecDepth 100000 in
theorem g_first {G : xG} {M : xM} {Q : Option Value → xM → Prop} (hW : wG G) (hG : CG G M) {p : Nat} (hp : p < 4) (h : Q (some (.int (nI (c0 (gw G) (gh G) p)))) M) : WP shC mX1_firstCellOf 0 [some (.ref 1), some (.int (nI p))] [] M Q := by
  obtain ⟨b1, b2, b3, b4, b5, b6, b7, b8, b9, wmap, wlink, wk0, wk1, b10, b11, wword⟩ := id hW
  refine xi_iload_n dX1_firstCellOf_0 rfl ?_
  by_cases h1_0 : p = 0
  · refine xi_tableIn 28 0 dX1_firstCellOf_1 (by rw [nI_toInt (by omega), h1_0]; rfl) (by decide) rfl (by decide) ?_
    refine xi_iconst (v := 0) dX1_firstCellOf_28 rfl ?_
    refine xi_iret (v := 0) dX1_firstCellOf_29 rfl ?_
    have e9 : c0 (gw G) (gh G) p = 0 := by unfold c0; first | rw [if_pos h1_0] | rw [if_neg h1_0, if_pos h1_1] | rw [if_neg h1_0, if_neg h1_1, if_pos h1_2] | rw [if_neg h1_0, if_neg h1_1, if_neg h1_2]
    rw [e9] at h
    exact h
  by_cases h1_1 : p = 1
  · refine xi_tableIn 30 1 dX1_firstCellOf_1 (by rw [nI_toInt (by omega), h1_1]; rfl) (by decide) rfl (by decide) ?_
    refine xi_aload_n dX1_firstCellOf_30 rfl ?_
    refine xe_getI (v := nI (gN G)) dX1_firstCellOf_31 fgX1_43 cc1 rfl (cg_N hG) ?_
    refine xi_iconst (v := 1) dX1_firstCellOf_34 rfl ?_
    refine xe_isub dX1_firstCellOf_35 (v := nI (gw G * gh G - 1)) (pk_sub (a := gN G) (b := 1) (by omega)) ?_
    refine xi_iret (v := nI (gw G * gh G - 1)) dX1_firstCellOf_36 rfl ?_
    have e9 : c0 (gw G) (gh G) p = gw G * gh G - 1 := by unfold c0; first | rw [if_pos h1_0] | rw [if_neg h1_0, if_pos h1_1] | rw [if_neg h1_0, if_neg h1_1, if_pos h1_2] | rw [if_neg h1_0, if_neg h1_1, if_neg h1_2]
    rw [e9] at h
    exact h
  by_cases h1_2 : p = 2
  · refine xi_tableIn 37 2 dX1_firstCellOf_1 (by rw [nI_toInt (by omega), h1_2]; rfl) (by decide) rfl (by decide) ?_
    refine xi_aload_n dX1_firstCellOf_37 rfl ?_
    refine xe_getI (v := nI (gw G)) dX1_firstCellOf_38 fgX1_33 cc1 rfl (cg_w hG) ?_
    refine xi_iconst (v := 1) dX1_firstCellOf_41 rfl ?_
    refine xe_isub dX1_firstCellOf_42 (v := nI (gw G - 1)) (pk_sub (b := 1) (by omega)) ?_
    refine xi_iret (v := nI (gw G - 1)) dX1_firstCellOf_43 rfl ?_
    have e9 : c0 (gw G) (gh G) p = gw G - 1 := by unfold c0; first | rw [if_pos h1_0] | rw [if_neg h1_0, if_pos h1_1] | rw [if_neg h1_0, if_neg h1_1, if_pos h1_2] | rw [if_neg h1_0, if_neg h1_1, if_neg h1_2]
    rw [e9] at h
    exact h
  refine xi_tableOut 44 dX1_firstCellOf_1 (by decide) (by rw [nI_toInt (by omega)]; omega) ?_
  refine xi_aload_n dX1_firstCellOf_44 rfl ?_
  refine xe_getI (v := nI (gh G)) dX1_firstCellOf_45 fgX1_37 cc1 rfl (cg_h hG) ?_
  refine xi_iconst (v := 1) dX1_firstCellOf_48 rfl ?_
  refine xe_isub dX1_firstCellOf_49 (v := nI (gh G - 1)) (pk_sub (b := 1) (by omega)) ?_
  refine xi_aload_n dX1_firstCellOf_50 rfl ?_
  refine xe_getI (v := nI (gw G)) dX1_firstCellOf_51 fgX1_33 cc1 rfl (cg_w hG) ?_
  refine xe_imul dX1_firstCellOf_54 (v := nI ((gh G - 1) * gw G)) (pk_mul _ _) ?_
  refine xi_iret (v := nI ((gh G - 1) * gw G)) dX1_firstCellOf_55 rfl ?_
  have e9 : c0 (gw G) (gh G) p = (gh G - 1) * gw G := by unfold c0; first | rw [if_pos h1_0] | rw [if_neg h1_0, if_pos h1_1] | rw [if_neg h1_0, if_neg h1_1, if_pos h1_2] | rw [if_neg h1_0, if_neg h1_1, if_neg h1_2]
  rw [e9] at h
  exact h

