/-- changed in the watch of one player, its machine's trials and the last tick and gap, alone -/
def FS (r : Nat) (M M2 : xM) : Prop := (∀ a, ¬ a = r → ¬ a = r + 3 → M2.1 a = M.1 a) ∧ M2.2.2 = M.2.2 ∧ (∀ a, ¬ a = r + 4 → M2.2.1 a = M.2.1 a) ∧ M2.1 r 2 = M.1 r 2 ∧ M2.1 r 3 = M.1 r 3
theorem CO.xf {o : xO} {M : xM} {r a k : Nat} {v : Int32} (h : CO o M r) (q : ¬ r = a) : CO o (xf M a k v) r := ⟨h.1, by rw [xf_o q]; exact h.2.1, by rw [xf_o q]; exact h.2.2.1, by rw [xf_o q]; exact h.2.2.2⟩
set_option maxHeartbeats 4000000 in
set_option maxRecDepth 100000 in
theorem u_gapN {M : xM} {r : Nat} {Q : Option Value → xM → Prop} (hr : isSu r) {o : xO} {t risk now : Nat}  (ht : t < 500) (hO : CO o M (r + 3)) (hwo : wO o) (hrb : risk ≤ 1048576) (hnb : now ≤ 500) (hlt : M.1 r 4 = xo none) (hlg : M.1 r 5 = xo none) (h : ∀ M2, FS r M M2 → CO (mgapO o none none t risk now) M2 (r + 3) → M2.1 r 4 = xo (some t) → M2.1 r 5 = xo (mgapG none t) → Q none M2) : WP shC mX7_lookAtGap 0 [some (.ref r), some (.int (nI t)), some (.int (nI risk)), some (.int (nI now)), none] [] M Q := by
  refine xi_aload_n dX7_lookAtGap_0 rfl ?_
  refine xe_getI (v := xo none) dX7_lookAtGap_1 fgX7_31 (suo hr) rfl hlt ?_
  refine xi_if_lt 53 dX7_lookAtGap_4 (by decide) (fun _ => ?_) (fun z => absurd (show xo none < 0 by decide) z)
  refine xi_aload_n dX7_lookAtGap_53 rfl ?_
  refine xi_iload_n dX7_lookAtGap_54 rfl ?_
  refine xi_put dX7_lookAtGap_55 fpX7_31 (suo hr) rfl ?_
  refine xi_vret dX7_lookAtGap_58 rfl ?_
  have eO : mgapO o none none t risk now = o := rfl
  rw [eO] at h
  refine h _ ⟨fun a q1 q2 => ?_, ?_, fun a q => ?_, ?_, ?_⟩ ?_ ?_ ?_
  · rw [xf_o q1]
  · rfl
  · rfl
  · rw [xf_k (by decide)]
  · rw [xf_k (by decide)]
  · exact CO.xf hO (by omega)
  · exact xf_s
  · rw [xf_k (by decide)]; exact hlg

set_option maxHeartbeats 4000000 in
set_option maxRecDepth 100000 in
theorem u_gapS {M : xM} {r : Nat} {Q : Option Value → xM → Prop} (hr : isSu r) {o : xO} {t risk now : Nat} {x : Nat} (hx : x < t) (ht : t < 500) (hO : CO o M (r + 3)) (hwo : wO o) (hrb : risk ≤ 1048576) (hnb : now ≤ 500) (hlt : M.1 r 4 = xo (some x)) (hlg : M.1 r 5 = xo none) (h : ∀ M2, FS r M M2 → CO (mgapO o (some x) none t risk now) M2 (r + 3) → M2.1 r 4 = xo (some t) → M2.1 r 5 = xo (mgapG (some x) t) → Q none M2) : WP shC mX7_lookAtGap 0 [some (.ref r), some (.int (nI t)), some (.int (nI risk)), some (.int (nI now)), none] [] M Q := by
  refine xi_aload_n dX7_lookAtGap_0 rfl ?_
  refine xe_getI (v := nI x) dX7_lookAtGap_1 fgX7_31 (suo hr) rfl hlt ?_
  refine xn_if_lt x 53 dX7_lookAtGap_4 (by decide) rfl (by omega) ?_
  refine xi_iload_n dX7_lookAtGap_7 rfl ?_
  refine xi_aload_n dX7_lookAtGap_8 rfl ?_
  refine xe_getI (v := nI x) dX7_lookAtGap_9 fgX7_31 (suo hr) rfl hlt ?_
  refine xe_isub dX7_lookAtGap_12 (v := nI (t - x)) (pk_sub (a := t) (b := x) (by omega)) ?_
  refine xi_istore (lv' := [some (.ref r), some (.int (nI t)), some (.int (nI risk)), some (.int (nI now)), some (.int (nI (t - x)))]) dX7_lookAtGap_13 (by decide) rfl ?_
  refine xi_aload_n dX7_lookAtGap_15 rfl ?_
  refine xe_getI (v := xo none) dX7_lookAtGap_16 fgX7_34 (suo hr) rfl hlg ?_
  refine xi_if_lt 47 dX7_lookAtGap_19 (by decide) (fun _ => ?_) (fun z => absurd (show xo none < 0 by decide) z)
  refine xat 47 rfl ?_
  refine xi_aload_n dX7_lookAtGap_47 rfl ?_
  refine xi_iload dX7_lookAtGap_48 rfl ?_
  refine xi_put dX7_lookAtGap_50 fpX7_34 (suo hr) rfl ?_
  refine xi_aload_n dX7_lookAtGap_53 rfl ?_
  refine xi_iload_n dX7_lookAtGap_54 rfl ?_
  refine xi_put dX7_lookAtGap_55 fpX7_31 (suo hr) rfl ?_
  refine xi_vret dX7_lookAtGap_58 rfl ?_
  have eO : mgapO o (some x) none t risk now = o := rfl
  rw [eO] at h
  refine h _ ⟨fun a q1 q2 => ?_, ?_, fun a q => ?_, ?_, ?_⟩ ?_ ?_ ?_
  · rw [xf_o q1, xf_o q1]
  · rfl
  · rfl
  · rw [xf_k (by decide), xf_k (by decide)]
  · rw [xf_k (by decide), xf_k (by decide)]
  · exact CO.xf (CO.xf hO (by omega)) (by omega)
  · exact xf_s
  · rw [xf_k (by decide)]; exact xf_s

set_option maxHeartbeats 4000000 in
set_option maxRecDepth 100000 in
theorem u_gapT {M : xM} {r : Nat} {Q : Option Value → xM → Prop} (hr : isSu r) {o : xO} {t risk now : Nat} {x y : Nat} (hx : x < t) (hy : y < 500) (ht : t < 500) (hO : CO o M (r + 3)) (hwo : wO o) (hrb : risk ≤ 1048576) (hnb : now ≤ 500) (hlt : M.1 r 4 = xo (some x)) (hlg : M.1 r 5 = xo (some y)) (h : ∀ M2, FS r M M2 → CO (mgapO o (some x) (some y) t risk now) M2 (r + 3) → M2.1 r 4 = xo (some t) → M2.1 r 5 = xo (mgapG (some x) t) → Q none M2) : WP shC mX7_lookAtGap 0 [some (.ref r), some (.int (nI t)), some (.int (nI risk)), some (.int (nI now)), none] [] M Q := by
  refine xi_aload_n dX7_lookAtGap_0 rfl ?_
  refine xe_getI (v := nI x) dX7_lookAtGap_1 fgX7_31 (suo hr) rfl hlt ?_
  refine xn_if_lt x 53 dX7_lookAtGap_4 (by decide) rfl (by omega) ?_
  refine xi_iload_n dX7_lookAtGap_7 rfl ?_
  refine xi_aload_n dX7_lookAtGap_8 rfl ?_
  refine xe_getI (v := nI x) dX7_lookAtGap_9 fgX7_31 (suo hr) rfl hlt ?_
  refine xe_isub dX7_lookAtGap_12 (v := nI (t - x)) (pk_sub (a := t) (b := x) (by omega)) ?_
  refine xi_istore (lv' := [some (.ref r), some (.int (nI t)), some (.int (nI risk)), some (.int (nI now)), some (.int (nI (t - x)))]) dX7_lookAtGap_13 (by decide) rfl ?_
  refine xi_aload_n dX7_lookAtGap_15 rfl ?_
  refine xe_getI (v := nI y) dX7_lookAtGap_16 fgX7_34 (suo hr) rfl hlg ?_
  refine xn_if_lt y 47 dX7_lookAtGap_19 (by decide) rfl (by omega) ?_
  refine xat 22 rfl ?_
  refine xi_aload_n dX7_lookAtGap_22 rfl ?_
  refine xi_getR dX7_lookAtGap_23 fgX7_18 (suo hr) rfl ?_
  refine xi_ldc (v := 262144) dX7_lookAtGap_26 kcX7_37 ?_
  refine xi_iload dX7_lookAtGap_28 rfl ?_
  refine xi_aload_n dX7_lookAtGap_30 rfl ?_
  refine xe_getI (v := nI y) dX7_lookAtGap_31 fgX7_34 (suo hr) rfl hlg ?_
  refine xn_icmp_ne (t - x) y 41 dX7_lookAtGap_34 (by decide) rfl rfl (by omega) (by omega) (fun h34 => ?_) (fun h34 => ?_)
  · skip
    refine xi_iconst (v := 0) dX7_lookAtGap_41 rfl ?_
    refine xi_iload_n dX7_lookAtGap_42 rfl ?_
    refine xi_iload_n dX7_lookAtGap_43 rfl ?_
    refine xi_callV [.int 262144, .int 0, .int (nI risk), .int (nI now)] [] dX7_lookAtGap_44 zX4_addTrial mlX7_38 (odo (su_o3 hr)) rfl rfl rfl rfl rfl (Nat.le_of_ble_eq_true rfl) (Nat.le_of_ble_eq_true rfl) ⟨by decide, by decide⟩ ?_
    refine o_addS (M := M) (o := o) (c := 262144) (b := false) hr.od3 hO hwo (by decide) hrb hnb (fun M1 F1 O1 => ?_)
    show WP _ _ 47 _ [] _ _
    refine xi_aload_n dX7_lookAtGap_47 rfl ?_
    refine xi_iload dX7_lookAtGap_48 rfl ?_
    refine xi_put dX7_lookAtGap_50 fpX7_34 (suo hr) rfl ?_
    refine xi_aload_n dX7_lookAtGap_53 rfl ?_
    refine xi_iload_n dX7_lookAtGap_54 rfl ?_
    refine xi_put dX7_lookAtGap_55 fpX7_31 (suo hr) rfl ?_
    refine xi_vret dX7_lookAtGap_58 rfl ?_
    have eO : mgapO o (some x) (some y) t risk now = madd o 262144 false risk now := by show madd o 262144 (decide (t - x = y)) risk now = _; rw [show decide (t - x = y) = false by simp; omega]
    rw [eO] at h
    refine h _ ⟨fun a q1 q2 => ?_, ?_, fun a q => ?_, ?_, ?_⟩ ?_ ?_ ?_
    · rw [xf_o q1, xf_o q1]; exact F1.1 a q2
    · exact F1.2.1
    · exact F1.2.2 a q
    · rw [xf_k (by decide), xf_k (by decide), F1.1 r (by omega)]
    · rw [xf_k (by decide), xf_k (by decide), F1.1 r (by omega)]
    · exact CO.xf (CO.xf O1 (by omega)) (by omega)
    · exact xf_s
    · rw [xf_k (by decide)]; exact xf_s
  · skip
    refine xi_iconst (v := 1) dX7_lookAtGap_37 rfl ?_
    refine xi_goto 42 dX7_lookAtGap_38 (by decide) ?_
    refine xi_iload_n dX7_lookAtGap_42 rfl ?_
    refine xi_iload_n dX7_lookAtGap_43 rfl ?_
    refine xi_callV [.int 262144, .int 1, .int (nI risk), .int (nI now)] [] dX7_lookAtGap_44 zX4_addTrial mlX7_38 (odo (su_o3 hr)) rfl rfl rfl rfl rfl (Nat.le_of_ble_eq_true rfl) (Nat.le_of_ble_eq_true rfl) ⟨by decide, by decide⟩ ?_
    refine o_addS (M := M) (o := o) (c := 262144) (b := true) hr.od3 hO hwo (by decide) hrb hnb (fun M1 F1 O1 => ?_)
    show WP _ _ 47 _ [] _ _
    refine xi_aload_n dX7_lookAtGap_47 rfl ?_
    refine xi_iload dX7_lookAtGap_48 rfl ?_
    refine xi_put dX7_lookAtGap_50 fpX7_34 (suo hr) rfl ?_
    refine xi_aload_n dX7_lookAtGap_53 rfl ?_
    refine xi_iload_n dX7_lookAtGap_54 rfl ?_
    refine xi_put dX7_lookAtGap_55 fpX7_31 (suo hr) rfl ?_
    refine xi_vret dX7_lookAtGap_58 rfl ?_
    have eO : mgapO o (some x) (some y) t risk now = madd o 262144 true risk now := by show madd o 262144 (decide (t - x = y)) risk now = _; rw [show decide (t - x = y) = true by simp; omega]
    rw [eO] at h
    refine h _ ⟨fun a q1 q2 => ?_, ?_, fun a q => ?_, ?_, ?_⟩ ?_ ?_ ?_
    · rw [xf_o q1, xf_o q1]; exact F1.1 a q2
    · exact F1.2.1
    · exact F1.2.2 a q
    · rw [xf_k (by decide), xf_k (by decide), F1.1 r (by omega)]
    · rw [xf_k (by decide), xf_k (by decide), F1.1 r (by omega)]
    · exact CO.xf (CO.xf O1 (by omega)) (by omega)
    · exact xf_s
    · rw [xf_k (by decide)]; exact xf_s

set_option maxHeartbeats 4000000 in
set_option maxRecDepth 100000 in
theorem u_gap {M : xM} {r : Nat} {Q : Option Value → xM → Prop} (hr : isSu r) {o : xO} {t risk now : Nat} {lt lg : Option Nat} (hx : ∀ x, lt = some x → x < t) (hy : ∀ y, lg = some y → y < 500) (hn : lt = none → lg = none) (ht : t < 500) (hO : CO o M (r + 3)) (hwo : wO o) (hrb : risk ≤ 1048576) (hnb : now ≤ 500) (hlt : M.1 r 4 = xo lt) (hlg : M.1 r 5 = xo lg) (h : ∀ M2, FS r M M2 → CO (mgapO o lt lg t risk now) M2 (r + 3) → M2.1 r 4 = xo (some t) → M2.1 r 5 = xo (mgapG lt t) → Q none M2) : WP shC mX7_lookAtGap 0 [some (.ref r), some (.int (nI t)), some (.int (nI risk)), some (.int (nI now)), none] [] M Q := by
  cases lt with
  | none =>
    cases lg with
    | none => exact u_gapN hr ht hO hwo hrb hnb hlt hlg h
    | some y => cases hn rfl
  | some x =>
    cases lg with
    | none => exact u_gapS hr (hx x rfl) ht hO hwo hrb hnb hlt hlg h
    | some y => exact u_gapT hr (hx x rfl) (hy y rfl) ht hO hwo hrb hnb hlt hlg h

