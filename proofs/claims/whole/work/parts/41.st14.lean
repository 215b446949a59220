theorem nI_m1 {c : Nat} (h : c < 2 ^ 31) : ¬ nI c = -1 := fun e => by
  have h1 := congrArg Int32.toInt e
  rw [nI_toInt h] at h1
  have h2 : (-1 : Int32).toInt = -1 := rfl
  omega
theorem mtail_le {T : Nat → Nat} {s : Nat} (hT : ∀ k, T k ≤ 1048576) : mtail T s < 2 ^ 31 := by
  have := mtlS_le hT (65 - s) s 0
  unfold mtail
  omega
def maddO (o : xO) (c : Option Nat) (b : Bool) (risk now : Nat) : xO := match c with
  | none => o
  | some c => madd o c b risk now
theorem wO_addO {o : xO} {risk now : Nat} {b : Bool} {c : Option Nat} (h : wO o) (hc : ∀ k, c = some k → k ≤ 1048576) (hn : now ≤ 500) : wO (maddO o c b risk now) := by
  cases c with
  | none => exact h
  | some k => exact wO_add h (hc k rfl) hn
theorem isSu.od1 {r : Nat} (h : isSu r) : isOd (r + 1) := by
  obtain ⟨j, hj, rfl⟩ := h
  exact ⟨2 * j, by omega, by omega⟩
theorem isSu.od3 {r : Nat} (h : isSu r) : isOd (r + 3) := by
  obtain ⟨j, hj, rfl⟩ := h
  exact ⟨2 * j + 1, by omega, by omega⟩
theorem su_o1 {r : Nat} (h : isSu r) : isOd (r + 1) := h.od1
theorem su_o3 {r : Nat} (h : isSu r) : isOd (r + 3) := h.od3
set_option maxHeartbeats 4000000 in
set_option maxRecDepth 100000 in
theorem o_addS {M : xM} {r : Nat} {Q : Option Value → xM → Prop} (hr : isOd r) {o : xO} (hO : CO o M r) (hw : wO o) {c : Nat} (hc : c ≤ 1048576) {b : Bool} {risk now : Nat} (hri : risk ≤ 1048576) (hno : now ≤ 500) (h : ∀ M2, FO r M M2 → CO (madd o c b risk now) M2 r → Q none M2) : WP shC mX4_addTrial 0 [some (.ref r), some (.int (nI c)), some (.int (xb b)), some (.int (nI risk)), some (.int (nI now))] [] M Q := by
  have hT := hw.2.2.2.1
  have hT2 : ∀ k, mspr (oT o) c k ≤ 1048576 := fun k => mspr_le hT hc
  have w1 := hw.1
  have w2 := hw.2.1
  have w3 := hw.2.2.1
  refine xi_iload_n dX4_addTrial_0 rfl ?_
  refine xi_iconst (v := (-1)) dX4_addTrial_1 rfl ?_
  refine xi_icmp_eq 14 dX4_addTrial_2 (by decide) (fun h2 => ?_) (fun h2 => ?_)
  · exact absurd h2 (nI_m1 (by omega))
  · skip
    refine xi_aload_n dX4_addTrial_5 rfl ?_
    refine xe_getI (v := nI (on o)) dX4_addTrial_6 fgX4_22 (odo hr) rfl hO.2.1 ?_
    refine xi_bipush (v := 64) dX4_addTrial_9 (by decide) ?_
    refine xn_icmp_lt (on o) 64 15 dX4_addTrial_11 (by decide) rfl rfl (by omega) (by omega) (fun h11 => ?_) (fun h11 => ?_)
    · skip
      refine xi_aload_n dX4_addTrial_15 rfl ?_
      refine xi_dup dX4_addTrial_16 rfl ?_
      refine xe_getI (v := nI (on o)) dX4_addTrial_17 fgX4_22 (odo hr) rfl hO.2.1 ?_
      refine xi_iconst (v := 1) dX4_addTrial_20 rfl ?_
      refine xe_iadd dX4_addTrial_21 (v := nI (on o + 1)) (nI_add (on o) 1) ?_
      refine xi_put dX4_addTrial_22 fpX4_22 (odo hr) rfl ?_
      generalize eM1 : (xf M r 1 (nI (on o + 1))) = M1
      have f1 : M1.1 r 1 = nI (on o + 1) := by rw [← eM1]; exact xf_s
      have f2 : M1.1 r 2 = nI (os o) := by rw [← eM1, xf_k (by decide)]; exact hO.2.2.1
      have f3 : M1.1 r 3 = nI (om o) := by rw [← eM1, xf_k (by decide)]; exact hO.2.2.2
      have fR : ∀ i, i < 65 → M1.2.1 (r + 1) i = nI (oT o i) := by rw [← eM1]; exact hO.1
      have F1 : FO r M M1 := by rw [← eM1]; exact FO.xf
      refine xi_aload_n dX4_addTrial_25 rfl ?_
      refine xi_dup dX4_addTrial_26 rfl ?_
      refine xe_getI (v := nI (os o)) dX4_addTrial_27 fgX4_26 (odo hr) rfl f2 ?_
      refine xi_iload_n dX4_addTrial_30 rfl ?_
      refine xb_if_eq b 38 dX4_addTrial_31 (by decide) rfl (fun h31 => ?_) (fun h31 => ?_)
      · skip
        refine xi_iconst (v := 0) dX4_addTrial_38 rfl ?_
        refine xe_iadd dX4_addTrial_39 (v := nI (os o + 0)) (nI_add (os o) 0) ?_
        refine xi_put dX4_addTrial_40 fpX4_26 (odo hr) rfl ?_
        generalize eM2 : (xf M1 r 2 (nI (os o + 0))) = M2
        have eb : os o + (if b = true then 1 else 0) = os o + 0 := by rw [h31]; rfl
        have g2 : M2.1 r 2 = nI (os o + (if b = true then 1 else 0)) := by rw [eb, ← eM2]; exact xf_s
        have g1 : M2.1 r 1 = nI (on o + 1) := by rw [← eM2, xf_k (by decide)]; exact f1
        have g3 : M2.1 r 3 = nI (om o) := by rw [← eM2, xf_k (by decide)]; exact f3
        have gR : ∀ i, i < 65 → M2.2.1 (r + 1) i = nI (oT o i) := by rw [← eM2]; exact fR
        have F2 : FO r M M2 := by rw [← eM2]; exact F1.tr FO.xf
        refine xi_aload_n dX4_addTrial_43 rfl ?_
        refine xi_iload_n dX4_addTrial_44 rfl ?_
        refine xi_callV [.int (nI c)] [] dX4_addTrial_45 zX4_spread mlX4_32 (odo hr) rfl rfl rfl rfl rfl (Nat.le_of_ble_eq_true rfl) (Nat.le_of_ble_eq_true rfl) ⟨by decide, by decide⟩ ?_
        refine o_spread hr hT hc (n := on o + 1) (by omega) g1 gR (fun k hk => hw.2.2.2.2 k (by omega)) (fun k hk => mspr_0 (hw.2.2.2.2 _ (by omega)) (hw.2.2.2.2 _ (by omega))) (fun M3 F3 R3 => ?_)
        have F4 : FO r M M3 := F2.tr ⟨fun a _ => by rw [F3.1], F3.2.1, F3.2.2⟩
        show WP _ _ 48 _ [] _ _
        refine xi_aload_n dX4_addTrial_48 rfl ?_
        refine xe_getI (v := nI (om o)) dX4_addTrial_49 fgX4_29 (odo hr) rfl (by rw [F3.1]; exact g3) ?_
        refine xn_if_ne (om o) 71 dX4_addTrial_52 (by decide) rfl (by omega) (fun h52 => ?_) (fun h52 => ?_)
        · skip
          refine xi_vret dX4_addTrial_71 rfl ?_
          have e : madd o c b risk now = (on o + 1, os o + (if b = true then 1 else 0), om o, mspr (oT o) c) := by
            rw [madd, if_pos (by omega), if_neg (c := om o = 0 ∧ mtail (mspr (oT o) c) (os o + (if b = true then 1 else 0)) ≤ risk) (fun q => by have := q.1; have := q.2; omega)]
          rw [e] at h
          exact h M3 F4 ⟨R3, by rw [F3.1]; exact g1, by rw [F3.1]; exact g2, by rw [F3.1]; exact g3⟩
        · skip
          refine xi_aload_n dX4_addTrial_55 rfl ?_
          refine xi_callV [] [] dX4_addTrial_56 zX4_tail mlX4_36 (odo hr) rfl rfl rfl rfl rfl (Nat.le_of_ble_eq_true rfl) (Nat.le_of_ble_eq_true rfl) ⟨by decide, by decide⟩ ?_
          refine o_tail hr hT2 R3 (s := os o + (if b = true then 1 else 0)) (by have := hw.2.1; split <;> omega) (by rw [F3.1]; exact g2) ?_
          have tb := mtail_le (s := os o + (if b = true then 1 else 0)) hT2
          show WP _ _ 59 _ [.int (nI (mtail (mspr (oT o) c) (os o + (if b = true then 1 else 0))))] _ _
          refine xi_iload_n dX4_addTrial_59 rfl ?_
          refine xn_icmp_gt (mtail (mspr (oT o) c) (os o + (if b = true then 1 else 0))) risk 71 dX4_addTrial_60 (by decide) rfl rfl (by omega) (by omega) (fun h60 => ?_) (fun h60 => ?_)
          · skip
            refine xi_vret dX4_addTrial_71 rfl ?_
            have e : madd o c b risk now = (on o + 1, os o + (if b = true then 1 else 0), om o, mspr (oT o) c) := by
              rw [madd, if_pos (by omega), if_neg (c := om o = 0 ∧ mtail (mspr (oT o) c) (os o + (if b = true then 1 else 0)) ≤ risk) (fun q => by have := q.1; have := q.2; omega)]
            rw [e] at h
            exact h M3 F4 ⟨R3, by rw [F3.1]; exact g1, by rw [F3.1]; exact g2, by rw [F3.1]; exact g3⟩
          · skip
            refine xi_aload_n dX4_addTrial_63 rfl ?_
            refine xi_iload dX4_addTrial_64 rfl ?_
            refine xi_iconst (v := 1) dX4_addTrial_66 rfl ?_
            refine xe_iadd dX4_addTrial_67 (v := nI (now + 1)) (nI_add now 1) ?_
            refine xi_put dX4_addTrial_68 fpX4_29 (odo hr) rfl ?_
            refine xi_vret dX4_addTrial_71 rfl ?_
            have e : madd o c b risk now = (on o + 1, os o + (if b = true then 1 else 0), now + 1, mspr (oT o) c) := by
              rw [madd, if_pos (by omega), if_pos (c := om o = 0 ∧ mtail (mspr (oT o) c) (os o + (if b = true then 1 else 0)) ≤ risk) ⟨h52, by omega⟩]
            rw [e] at h
            exact h _ (F4.tr FO.xf) ⟨R3, by rw [xf_k (by decide), F3.1]; exact g1, by rw [xf_k (by decide), F3.1]; exact g2, xf_s⟩
      · skip
        refine xi_iconst (v := 1) dX4_addTrial_34 rfl ?_
        refine xi_goto 39 dX4_addTrial_35 (by decide) ?_
        refine xe_iadd dX4_addTrial_39 (v := nI (os o + 1)) (nI_add (os o) 1) ?_
        refine xi_put dX4_addTrial_40 fpX4_26 (odo hr) rfl ?_
        generalize eM2 : (xf M1 r 2 (nI (os o + 1))) = M2
        have eb : os o + (if b = true then 1 else 0) = os o + 1 := by rw [h31]; rfl
        have g2 : M2.1 r 2 = nI (os o + (if b = true then 1 else 0)) := by rw [eb, ← eM2]; exact xf_s
        have g1 : M2.1 r 1 = nI (on o + 1) := by rw [← eM2, xf_k (by decide)]; exact f1
        have g3 : M2.1 r 3 = nI (om o) := by rw [← eM2, xf_k (by decide)]; exact f3
        have gR : ∀ i, i < 65 → M2.2.1 (r + 1) i = nI (oT o i) := by rw [← eM2]; exact fR
        have F2 : FO r M M2 := by rw [← eM2]; exact F1.tr FO.xf
        refine xi_aload_n dX4_addTrial_43 rfl ?_
        refine xi_iload_n dX4_addTrial_44 rfl ?_
        refine xi_callV [.int (nI c)] [] dX4_addTrial_45 zX4_spread mlX4_32 (odo hr) rfl rfl rfl rfl rfl (Nat.le_of_ble_eq_true rfl) (Nat.le_of_ble_eq_true rfl) ⟨by decide, by decide⟩ ?_
        refine o_spread hr hT hc (n := on o + 1) (by omega) g1 gR (fun k hk => hw.2.2.2.2 k (by omega)) (fun k hk => mspr_0 (hw.2.2.2.2 _ (by omega)) (hw.2.2.2.2 _ (by omega))) (fun M3 F3 R3 => ?_)
        have F4 : FO r M M3 := F2.tr ⟨fun a _ => by rw [F3.1], F3.2.1, F3.2.2⟩
        show WP _ _ 48 _ [] _ _
        refine xi_aload_n dX4_addTrial_48 rfl ?_
        refine xe_getI (v := nI (om o)) dX4_addTrial_49 fgX4_29 (odo hr) rfl (by rw [F3.1]; exact g3) ?_
        refine xn_if_ne (om o) 71 dX4_addTrial_52 (by decide) rfl (by omega) (fun h52 => ?_) (fun h52 => ?_)
        · skip
          refine xi_vret dX4_addTrial_71 rfl ?_
          have e : madd o c b risk now = (on o + 1, os o + (if b = true then 1 else 0), om o, mspr (oT o) c) := by
            rw [madd, if_pos (by omega), if_neg (c := om o = 0 ∧ mtail (mspr (oT o) c) (os o + (if b = true then 1 else 0)) ≤ risk) (fun q => by have := q.1; have := q.2; omega)]
          rw [e] at h
          exact h M3 F4 ⟨R3, by rw [F3.1]; exact g1, by rw [F3.1]; exact g2, by rw [F3.1]; exact g3⟩
        · skip
          refine xi_aload_n dX4_addTrial_55 rfl ?_
          refine xi_callV [] [] dX4_addTrial_56 zX4_tail mlX4_36 (odo hr) rfl rfl rfl rfl rfl (Nat.le_of_ble_eq_true rfl) (Nat.le_of_ble_eq_true rfl) ⟨by decide, by decide⟩ ?_
          refine o_tail hr hT2 R3 (s := os o + (if b = true then 1 else 0)) (by have := hw.2.1; split <;> omega) (by rw [F3.1]; exact g2) ?_
          have tb := mtail_le (s := os o + (if b = true then 1 else 0)) hT2
          show WP _ _ 59 _ [.int (nI (mtail (mspr (oT o) c) (os o + (if b = true then 1 else 0))))] _ _
          refine xi_iload_n dX4_addTrial_59 rfl ?_
          refine xn_icmp_gt (mtail (mspr (oT o) c) (os o + (if b = true then 1 else 0))) risk 71 dX4_addTrial_60 (by decide) rfl rfl (by omega) (by omega) (fun h60 => ?_) (fun h60 => ?_)
          · skip
            refine xi_vret dX4_addTrial_71 rfl ?_
            have e : madd o c b risk now = (on o + 1, os o + (if b = true then 1 else 0), om o, mspr (oT o) c) := by
              rw [madd, if_pos (by omega), if_neg (c := om o = 0 ∧ mtail (mspr (oT o) c) (os o + (if b = true then 1 else 0)) ≤ risk) (fun q => by have := q.1; have := q.2; omega)]
            rw [e] at h
            exact h M3 F4 ⟨R3, by rw [F3.1]; exact g1, by rw [F3.1]; exact g2, by rw [F3.1]; exact g3⟩
          · skip
            refine xi_aload_n dX4_addTrial_63 rfl ?_
            refine xi_iload dX4_addTrial_64 rfl ?_
            refine xi_iconst (v := 1) dX4_addTrial_66 rfl ?_
            refine xe_iadd dX4_addTrial_67 (v := nI (now + 1)) (nI_add now 1) ?_
            refine xi_put dX4_addTrial_68 fpX4_29 (odo hr) rfl ?_
            refine xi_vret dX4_addTrial_71 rfl ?_
            have e : madd o c b risk now = (on o + 1, os o + (if b = true then 1 else 0), now + 1, mspr (oT o) c) := by
              rw [madd, if_pos (by omega), if_pos (c := om o = 0 ∧ mtail (mspr (oT o) c) (os o + (if b = true then 1 else 0)) ≤ risk) ⟨h52, by omega⟩]
            rw [e] at h
            exact h _ (F4.tr FO.xf) ⟨R3, by rw [xf_k (by decide), F3.1]; exact g1, by rw [xf_k (by decide), F3.1]; exact g2, xf_s⟩
    · skip
      refine xi_vret dX4_addTrial_14 rfl ?_
      have e : madd o c b risk now = o := if_neg (by omega)
      rw [e] at h
      exact h M FO.rf hO

set_option maxHeartbeats 4000000 in
set_option maxRecDepth 100000 in
theorem o_addN {M : xM} {r : Nat} {Q : Option Value → xM → Prop} (hr : isOd r) {o : xO} (hO : CO o M r) (hw : wO o) {b : Bool} {risk now : Nat} (h : ∀ M2, FO r M M2 → CO o M2 r → Q none M2) : WP shC mX4_addTrial 0 [some (.ref r), some (.int (xo none)), some (.int (xb b)), some (.int (nI risk)), some (.int (nI now))] [] M Q := by
  refine xi_iload_n dX4_addTrial_0 rfl ?_
  refine xi_iconst (v := (-1)) dX4_addTrial_1 rfl ?_
  refine xi_icmp_eq 14 dX4_addTrial_2 (by decide) (fun h2 => ?_) (fun h2 => ?_)
  · skip
    refine xi_vret dX4_addTrial_14 rfl ?_
    exact h M FO.rf hO
  · exact absurd rfl h2

set_option maxHeartbeats 4000000 in
set_option maxRecDepth 100000 in
theorem o_add {M : xM} {r : Nat} {Q : Option Value → xM → Prop} (hr : isOd r) {o : xO} (hO : CO o M r) (hw : wO o) {oc : Option Nat} (hc : ∀ k, oc = some k → k ≤ 1048576) {b : Bool} {risk now : Nat} (hri : risk ≤ 1048576) (hno : now ≤ 500) (h : ∀ M2, FO r M M2 → CO (maddO o oc b risk now) M2 r → Q none M2) : WP shC mX4_addTrial 0 [some (.ref r), some (.int (xo oc)), some (.int (xb b)), some (.int (nI risk)), some (.int (nI now))] [] M Q := by
  cases oc with
  | none => exact o_addN hr hO hw h
  | some c => exact o_addS hr hO hw (hc c rfl) hri hno h

