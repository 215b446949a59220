def mshutO (G : xG) (S : xS) (o : Option Nat) : Bool := match o with
  | none => false
  | some k => mshut G S k
def mdoorO (G : xG) (o : Option Nat) : Bool := match o with
  | none => false
  | some k => decide (gmap G k = 2)
set_option maxHeartbeats 4000000 in
set_option maxRecDepth 100000 in
theorem g_next {G : xG} {M : xM} {Q : Option Value → xM → Prop} (hW : wG G) (hG : CG G M) {k d : Nat} (hk : k < gN G) (hd : d < 4) (h : Q (some (.int (xo (mnext G k d)))) M) : WP shC mX1_nextTo 0 [some (.ref 1), some (.int (nI k)), some (.int (nI d))] [] M Q := by
  obtain ⟨b1, b2, b3, b4, b5, b6, b7, b8, b9, wmap, wlink, wk0, wk1, b10, b11, wword⟩ := id hW
  refine xi_aload_n dX1_nextTo_0 rfl ?_
  refine xi_getR dX1_nextTo_1 fgX1_24 cc1 rfl ?_
  refine xi_iload_n dX1_nextTo_4 rfl ?_
  refine xi_iconst (v := 4) dX1_nextTo_5 rfl ?_
  refine xe_imul dX1_nextTo_6 (v := nI (k * 4)) (pk_mul k 4) ?_
  refine xi_iload_n dX1_nextTo_7 rfl ?_
  refine xe_iadd dX1_nextTo_8 (v := nI (k * 4 + d)) (nI_add (k * 4) d) ?_
  refine xe_iald (v := xo (mnext G k d)) (k * 4 + d) dX1_nextTo_9 cc6 (by decide) rfl (by omega) (cg_nx hG hk hd) ?_
  refine xi_iret (v := xo (mnext G k d)) dX1_nextTo_10 rfl ?_
  exact h

set_option maxHeartbeats 4000000 in
set_option maxRecDepth 100000 in
theorem s_bars {G : xG} {S : xS} {M : xM} {r : Nat} {Q : Option Value → xM → Prop} (hW : wG G) (hG : CG G M) (hr : isSt r) (hS : CS G S M r) {k : Nat} (hk : k < gN G) (h : Q (some (.int (xb (mbars G S k)))) M) : WP shC mX6_bars 0 [some (.ref r), some (.int (nI k))] [] M Q := by
  obtain ⟨b1, b2, b3, b4, b5, b6, b7, b8, b9, wmap, wlink, wk0, wk1, b10, b11, wword⟩ := id hW
  refine xi_aload_n dX6_bars_0 rfl ?_
  refine xi_getR dX6_bars_1 fgX6_39 (so hr) rfl ?_
  refine xi_getR dX6_bars_4 fgX6_78 cc1 rfl ?_
  refine xi_iload_n dX6_bars_7 rfl ?_
  have q1 := wmap k (by omega)
  refine xe_iald (v := nI (gmap G k)) k dX6_bars_8 cc2 (by decide) rfl (by omega) (cg_map hG (by omega)) ?_
  refine xi_iconst (v := 1) dX6_bars_9 rfl ?_
  refine xn_icmp_eq (gmap G k) 1 43 dX6_bars_10 (by decide) rfl rfl (by omega) (by omega) (fun h10 => ?_) (fun h10 => ?_)
  · skip
    refine xi_iconst (v := 1) dX6_bars_43 rfl ?_
    refine xi_goto 48 dX6_bars_44 (by decide) ?_
    refine xi_zret (v := 1) dX6_bars_48 rfl (by decide) ?_
    simpa [xb, mbars, mshut, h10] using h
  · skip
    refine xi_aload_n dX6_bars_13 rfl ?_
    refine xi_getR dX6_bars_14 fgX6_39 (so hr) rfl ?_
    refine xi_getR dX6_bars_17 fgX6_78 cc1 rfl ?_
    refine xi_iload_n dX6_bars_20 rfl ?_
    have q2 := wmap k (by omega)
    refine xe_iald (v := nI (gmap G k)) k dX6_bars_21 cc2 (by decide) rfl (by omega) (cg_map hG (by omega)) ?_
    refine xi_iconst (v := 2) dX6_bars_22 rfl ?_
    refine xn_icmp_ne (gmap G k) 2 47 dX6_bars_23 (by decide) rfl rfl (by omega) (by omega) (fun h23 => ?_) (fun h23 => ?_)
    · skip
      refine xi_iconst (v := 0) dX6_bars_47 rfl ?_
      refine xi_zret (v := 0) dX6_bars_48 rfl (by decide) ?_
      simpa [xb, mbars, mshut, h10, h23] using h
    · skip
      refine xi_aload_n dX6_bars_26 rfl ?_
      refine xi_getR dX6_bars_27 fgX6_36 (so hr) rfl ?_
      refine xi_aload_n dX6_bars_30 rfl ?_
      refine xi_getR dX6_bars_31 fgX6_39 (so hr) rfl ?_
      refine xi_getR dX6_bars_34 fgX6_81 cc1 rfl ?_
      refine xi_iload_n dX6_bars_37 rfl ?_
      have q3 := wlink k (by omega) (by omega)
      refine xe_iald (v := nI (glink G k)) k dX6_bars_38 cc3 (by decide) rfl (by omega) (cg_link hG (by omega) (by omega)) ?_
      refine xe_iald (v := sO S (glink G k)) (glink G k) dX6_bars_39 (sa9 hr) (by decide) rfl (by omega) (csO hS (by omega)) ?_
      refine xi_if_ne 47 dX6_bars_40 (by decide) (fun h40 => ?_) (fun h40 => ?_)
      · skip
        refine xi_iconst (v := 0) dX6_bars_47 rfl ?_
        refine xi_zret (v := 0) dX6_bars_48 rfl (by decide) ?_
        simpa [xb, mbars, mshut, h10, h23, h40] using h
      · skip
        refine xi_iconst (v := 1) dX6_bars_43 rfl ?_
        refine xi_goto 48 dX6_bars_44 (by decide) ?_
        refine xi_zret (v := 1) dX6_bars_48 rfl (by decide) ?_
        simpa [xb, mbars, mshut, h10, h23, h40] using h

set_option maxHeartbeats 4000000 in
set_option maxRecDepth 100000 in
theorem s_shut {G : xG} {S : xS} {M : xM} {r : Nat} {Q : Option Value → xM → Prop} (hW : wG G) (hG : CG G M) (hr : isSt r) (hS : CS G S M r) {o : Option Nat} (ho : ∀ k, o = some k → k < gN G) (h : Q (some (.int (xb (mshutO G S o)))) M) : WP shC mX6_isShutDoor 0 [some (.ref r), some (.int (xo o))] [] M Q := by
  obtain ⟨b1, b2, b3, b4, b5, b6, b7, b8, b9, wmap, wlink, wk0, wk1, b10, b11, wword⟩ := id hW
  refine xi_iload_n dX6_isShutDoor_0 rfl ?_
  refine xo_if_lt o 38 dX6_isShutDoor_1 (by decide) rfl (fun k q => by have := ho k q; omega) (fun h1 => ?_) (fun k h1 => ?_)
  · subst h1
    refine xi_iconst (v := 0) dX6_isShutDoor_38 rfl ?_
    refine xi_zret (v := 0) dX6_isShutDoor_39 rfl (by decide) ?_
    simpa [xb, mshutO, mshut] using h
  · subst h1
    have hk := ho k rfl
    refine xi_aload_n dX6_isShutDoor_4 rfl ?_
    refine xi_getR dX6_isShutDoor_5 fgX6_39 (so hr) rfl ?_
    refine xi_getR dX6_isShutDoor_8 fgX6_78 cc1 rfl ?_
    refine xi_iload_n dX6_isShutDoor_11 rfl ?_
    have q1 := wmap k (by omega)
    refine xe_iald (v := nI (gmap G k)) k dX6_isShutDoor_12 cc2 (by decide) rfl (by omega) (cg_map hG (by omega)) ?_
    refine xi_iconst (v := 2) dX6_isShutDoor_13 rfl ?_
    refine xn_icmp_ne (gmap G k) 2 38 dX6_isShutDoor_14 (by decide) rfl rfl (by omega) (by omega) (fun h14 => ?_) (fun h14 => ?_)
    · skip
      refine xi_iconst (v := 0) dX6_isShutDoor_38 rfl ?_
      refine xi_zret (v := 0) dX6_isShutDoor_39 rfl (by decide) ?_
      simpa [xb, mshutO, mshut, h14] using h
    · skip
      refine xi_aload_n dX6_isShutDoor_17 rfl ?_
      refine xi_getR dX6_isShutDoor_18 fgX6_36 (so hr) rfl ?_
      refine xi_aload_n dX6_isShutDoor_21 rfl ?_
      refine xi_getR dX6_isShutDoor_22 fgX6_39 (so hr) rfl ?_
      refine xi_getR dX6_isShutDoor_25 fgX6_81 cc1 rfl ?_
      refine xi_iload_n dX6_isShutDoor_28 rfl ?_
      have q2 := wlink k (by omega) (by omega)
      refine xe_iald (v := nI (glink G k)) k dX6_isShutDoor_29 cc3 (by decide) rfl (by omega) (cg_link hG (by omega) (by omega)) ?_
      refine xe_iald (v := sO S (glink G k)) (glink G k) dX6_isShutDoor_30 (sa9 hr) (by decide) rfl (by omega) (csO hS (by omega)) ?_
      refine xi_if_ne 38 dX6_isShutDoor_31 (by decide) (fun h31 => ?_) (fun h31 => ?_)
      · skip
        refine xi_iconst (v := 0) dX6_isShutDoor_38 rfl ?_
        refine xi_zret (v := 0) dX6_isShutDoor_39 rfl (by decide) ?_
        simpa [xb, mshutO, mshut, h14, h31] using h
      · skip
        refine xi_iconst (v := 1) dX6_isShutDoor_34 rfl ?_
        refine xi_goto 39 dX6_isShutDoor_35 (by decide) ?_
        refine xi_zret (v := 1) dX6_isShutDoor_39 rfl (by decide) ?_
        simpa [xb, mshutO, mshut, h14, h31] using h

set_option maxHeartbeats 4000000 in
set_option maxRecDepth 100000 in
theorem s_door {G : xG} {S : xS} {M : xM} {r : Nat} {Q : Option Value → xM → Prop} (hW : wG G) (hG : CG G M) (hr : isSt r) (hS : CS G S M r) {o : Option Nat} (ho : ∀ k, o = some k → k < gN G) (h : Q (some (.int (xb (mdoorO G o)))) M) : WP shC mX6_isDoor 0 [some (.ref r), some (.int (xo o))] [] M Q := by
  obtain ⟨b1, b2, b3, b4, b5, b6, b7, b8, b9, wmap, wlink, wk0, wk1, b10, b11, wword⟩ := id hW
  refine xi_iload_n dX6_isDoor_0 rfl ?_
  refine xo_if_lt o 21 dX6_isDoor_1 (by decide) rfl (fun k q => by have := ho k q; omega) (fun h1 => ?_) (fun k h1 => ?_)
  · subst h1
    refine xi_iconst (v := 0) dX6_isDoor_21 rfl ?_
    refine xi_zret (v := 0) dX6_isDoor_22 rfl (by decide) ?_
    simpa [xb, mdoorO] using h
  · subst h1
    have hk := ho k rfl
    refine xi_aload_n dX6_isDoor_4 rfl ?_
    refine xi_getR dX6_isDoor_5 fgX6_39 (so hr) rfl ?_
    refine xi_getR dX6_isDoor_8 fgX6_78 cc1 rfl ?_
    refine xi_iload_n dX6_isDoor_11 rfl ?_
    have q1 := wmap k (by omega)
    refine xe_iald (v := nI (gmap G k)) k dX6_isDoor_12 cc2 (by decide) rfl (by omega) (cg_map hG (by omega)) ?_
    refine xi_iconst (v := 2) dX6_isDoor_13 rfl ?_
    refine xn_icmp_ne (gmap G k) 2 21 dX6_isDoor_14 (by decide) rfl rfl (by omega) (by omega) (fun h14 => ?_) (fun h14 => ?_)
    · skip
      refine xi_iconst (v := 0) dX6_isDoor_21 rfl ?_
      refine xi_zret (v := 0) dX6_isDoor_22 rfl (by decide) ?_
      simpa [xb, mdoorO, h14] using h
    · skip
      refine xi_iconst (v := 1) dX6_isDoor_17 rfl ?_
      refine xi_goto 22 dX6_isDoor_18 (by decide) ?_
      refine xi_zret (v := 1) dX6_isDoor_22 rfl (by decide) ?_
      simpa [xb, mdoorO, h14] using h

set_option maxHeartbeats 4000000 in
set_option maxRecDepth 100000 in
theorem l_stand {G : xG} {S : xS} {M : xM} {r : Nat} {Q : Option Value → xM → Prop} (hW : wG G) (hG : CG G M) (hr : isSt r) (hS : CS G S M r) (hw : wS G S) {k : Nat} : ∀ (f n : Nat), n + f = gT G → Q (some (.int (xo (mstF (sC S) (sL S) (nI k) n f)))) M → WP shC mX6_standingIn 2 [some (.ref r), some (.int (nI k)), some (.int (nI n))] [] M Q := by
  obtain ⟨b1, b2, b3, b4, b5, b6, b7, b8, b9, wmap, wlink, wk0, wk1, b10, b11, wword⟩ := id hW
  intro f
  induction f with
  | zero =>
    intro n hf h
    refine xi_iload_n dX6_standingIn_2 rfl ?_
    refine xi_aload_n dX6_standingIn_3 rfl ?_
    refine xi_getR dX6_standingIn_4 fgX6_39 (so hr) rfl ?_
    refine xe_getI (v := nI (gT G)) dX6_standingIn_7 fgX6_75 cc1 rfl (cg_T hG) ?_
    refine xn_icmp_ge n (gT G) 40 dX6_standingIn_10 (by decide) rfl rfl (by omega) (by omega) (fun h10 => ?_) (fun h10 => ?_)
    · skip
      refine xi_iconst (v := (-1)) dX6_standingIn_40 rfl ?_
      refine xi_iret (v := (-1)) dX6_standingIn_41 rfl ?_
      exact h
    · omega
  | succ f ih =>
    intro n hf h
    refine xi_iload_n dX6_standingIn_2 rfl ?_
    refine xi_aload_n dX6_standingIn_3 rfl ?_
    refine xi_getR dX6_standingIn_4 fgX6_39 (so hr) rfl ?_
    refine xe_getI (v := nI (gT G)) dX6_standingIn_7 fgX6_75 cc1 rfl (cg_T hG) ?_
    refine xn_icmp_ge n (gT G) 40 dX6_standingIn_10 (by decide) rfl rfl (by omega) (by omega) (fun h10 => ?_) (fun h10 => ?_)
    · omega
    · skip
      refine xi_aload_n dX6_standingIn_13 rfl ?_
      refine xi_getR dX6_standingIn_14 fgX6_9 (so hr) rfl ?_
      refine xi_iload_n dX6_standingIn_17 rfl ?_
      refine xe_iald (v := sC S n) n dX6_standingIn_18 (sa1 hr) (by decide) rfl (by omega) (csC hS (by omega)) ?_
      refine xi_iload_n dX6_standingIn_19 rfl ?_
      refine xi_icmp_ne 34 dX6_standingIn_20 (by decide) (fun h20 => ?_) (fun h20 => ?_)
      · skip
        refine xi_iinc (v := nI (n + 1)) (lv' := [some (.ref r), some (.int (nI k)), some (.int (nI (n + 1)))]) dX6_standingIn_34 rfl (xinc n) (by decide) rfl ?_
        refine xi_goto 2 dX6_standingIn_37 (by decide) ?_
        rw [mstF, if_neg (by exact fun q => h20 q.1)] at h
        exact ih (n + 1) (by omega) h
      · skip
        refine xi_aload_n dX6_standingIn_23 rfl ?_
        refine xi_getR dX6_standingIn_24 fgX6_15 (so hr) rfl ?_
        refine xi_iload_n dX6_standingIn_27 rfl ?_
        have q2 := (hw).2.1 n (by omega)
        refine xe_iald (v := nI (sL S n)) n dX6_standingIn_28 (sa2 hr) (by decide) rfl (by omega) (csL hS (by omega)) ?_
        refine xn_if_le (sL S n) 34 dX6_standingIn_29 (by decide) rfl (by omega) (fun h29 => ?_) (fun h29 => ?_)
        · skip
          refine xi_iinc (v := nI (n + 1)) (lv' := [some (.ref r), some (.int (nI k)), some (.int (nI (n + 1)))]) dX6_standingIn_34 rfl (xinc n) (by decide) rfl ?_
          refine xi_goto 2 dX6_standingIn_37 (by decide) ?_
          rw [mstF, if_neg (by exact fun q => by omega)] at h
          exact ih (n + 1) (by omega) h
        · skip
          refine xi_iload_n dX6_standingIn_32 rfl ?_
          refine xi_iret (v := nI n) dX6_standingIn_33 rfl ?_
          rw [mstF, if_pos ⟨h20, h29⟩] at h
          exact h

set_option maxHeartbeats 4000000 in
set_option maxRecDepth 100000 in
theorem s_stand {G : xG} {S : xS} {M : xM} {r : Nat} {Q : Option Value → xM → Prop} (hW : wG G) (hG : CG G M) (hr : isSt r) (hS : CS G S M r) (hw : wS G S) {k : Nat} (h : Q (some (.int (xo (mstand G S k)))) M) : WP shC mX6_standingIn 0 [some (.ref r), some (.int (nI k)), none] [] M Q := by
  obtain ⟨b1, b2, b3, b4, b5, b6, b7, b8, b9, wmap, wlink, wk0, wk1, b10, b11, wword⟩ := id hW
  refine xi_iconst (v := 0) dX6_standingIn_0 rfl ?_
  refine xi_istore_n (lv' := [some (.ref r), some (.int (nI k)), some (.int 0)]) dX6_standingIn_1 (by decide) rfl ?_
  exact l_stand hW hG hr hS hw (gT G) 0 (by omega) h

set_option maxHeartbeats 4000000 in
set_option maxRecDepth 100000 in
theorem s_free {G : xG} {S : xS} {M : xM} {r : Nat} {Q : Option Value → xM → Prop} (hW : wG G) (hG : CG G M) (hr : isSt r) (hS : CS G S M r) (hw : wS G S) {o : Option Nat} (ho : ∀ k, o = some k → k < gN G) (h : Q (some (.int (xb (mfree G S o)))) M) : WP shC mX6_isFree 0 [some (.ref r), some (.int (xo o))] [] M Q := by
  obtain ⟨b1, b2, b3, b4, b5, b6, b7, b8, b9, wmap, wlink, wk0, wk1, b10, b11, wword⟩ := id hW
  refine xi_iload_n dX6_isFree_0 rfl ?_
  refine xo_if_lt o 24 dX6_isFree_1 (by decide) rfl (fun k q => by have := ho k q; omega) (fun h1 => ?_) (fun k h1 => ?_)
  · subst h1
    refine xi_iconst (v := 0) dX6_isFree_24 rfl ?_
    refine xi_zret (v := 0) dX6_isFree_25 rfl (by decide) ?_
    simpa [xb, mfree] using h
  · subst h1
    have hk := ho k rfl
    refine xi_aload_n dX6_isFree_4 rfl ?_
    refine xi_iload_n dX6_isFree_5 rfl ?_
    refine xi_callV [.int (xo (some k))] [] dX6_isFree_6 zX6_bars mlX6_84 (so hr) rfl rfl rfl rfl rfl (Nat.le_of_ble_eq_true rfl) (Nat.le_of_ble_eq_true rfl) ⟨by decide, by decide⟩ ?_
    refine s_bars hW hG hr hS (k := k) (by omega) ?_
    show WP _ _ 9 _ [.int (xb (mbars G S k))] _ _
    refine xb_if_ne (mbars G S k) 24 dX6_isFree_9 (by decide) rfl (fun h9 => ?_) (fun h9 => ?_)
    · skip
      refine xi_iconst (v := 0) dX6_isFree_24 rfl ?_
      refine xi_zret (v := 0) dX6_isFree_25 rfl (by decide) ?_
      simpa [xb, mfree, h9] using h
    · skip
      refine xi_aload_n dX6_isFree_12 rfl ?_
      refine xi_iload_n dX6_isFree_13 rfl ?_
      refine xi_callV [.int (xo (some k))] [] dX6_isFree_14 zX6_standingIn mlX6_88 (so hr) rfl rfl rfl rfl rfl (Nat.le_of_ble_eq_true rfl) (Nat.le_of_ble_eq_true rfl) ⟨by decide, by decide⟩ ?_
      refine s_stand hW hG hr hS hw (k := k) ?_
      show WP _ _ 17 _ [.int (xo (mstand G S k))] _ _
      generalize eo14 : mstand G S k = o14
      refine xo_if_ge o14 24 dX6_isFree_17 (by decide) rfl (fun m q => by have := mstand_lt (eo14.trans q); omega) (fun m h17 => ?_) (fun h17 => ?_)
      · subst h17
        refine xi_iconst (v := 0) dX6_isFree_24 rfl ?_
        refine xi_zret (v := 0) dX6_isFree_25 rfl (by decide) ?_
        simpa [xb, mfree, eo14, h9] using h
      · subst h17
        refine xi_iconst (v := 1) dX6_isFree_20 rfl ?_
        refine xi_goto 25 dX6_isFree_21 (by decide) ?_
        refine xi_zret (v := 1) dX6_isFree_25 rfl (by decide) ?_
        simpa [xb, mfree, eo14, h9] using h

set_option maxHeartbeats 4000000 in
set_option maxRecDepth 100000 in
theorem s_car {G : xG} {S : xS} {M : xM} {r : Nat} {Q : Option Value → xM → Prop} (hW : wG G) (hG : CG G M) (hr : isSt r) (hS : CS G S M r) (hw : wS G S) {p q : Nat} (hp : p < gP G) (hq : q < 8) (h : Q (some (.int (xb (mcar G S p q)))) M) : WP shC mX6_carries 0 [some (.ref r), some (.int (nI p)), some (.int (nI q))] [] M Q := by
  obtain ⟨b1, b2, b3, b4, b5, b6, b7, b8, b9, wmap, wlink, wk0, wk1, b10, b11, wword⟩ := id hW
  refine xi_aload_n dX6_carries_0 rfl ?_
  refine xi_getR dX6_carries_1 fgX6_27 (so hr) rfl ?_
  refine xi_iload_n dX6_carries_4 rfl ?_
  obtain ⟨o1, ho1⟩ : ∃ o, o = sH S p := ⟨_, rfl⟩
  refine xe_iald (v := xo o1) p dX6_carries_5 (sa6 hr) (by decide) rfl (by omega) (by rw [ho1]; exact csH hS (by omega)) ?_
  refine xo_if_lt o1 31 dX6_carries_6 (by decide) rfl (fun j q => by have := hw.2.2.2.2 p hp j (ho1.symm.trans q); omega) (fun h6 => ?_) (fun j h6 => ?_)
  · subst h6
    refine xi_iconst (v := 0) dX6_carries_31 rfl ?_
    refine xi_zret (v := 0) dX6_carries_32 rfl (by decide) ?_
    simpa [xb, mcar, ← ho1] using h
  · subst h6
    have hj := hw.2.2.2.2 p hp j ho1.symm
    refine xi_aload_n dX6_carries_9 rfl ?_
    refine xi_getR dX6_carries_10 fgX6_39 (so hr) rfl ?_
    refine xi_getR dX6_carries_13 fgX6_72 cc1 rfl ?_
    refine xi_aload_n dX6_carries_16 rfl ?_
    refine xi_getR dX6_carries_17 fgX6_27 (so hr) rfl ?_
    refine xi_iload_n dX6_carries_20 rfl ?_
    refine xe_iald (v := xo (some j)) p dX6_carries_21 (sa6 hr) (by decide) rfl (by omega) (by rw [ho1]; exact csH hS (by omega)) ?_
    have q3 : gkind G j ≤ 7 := hW.kind (by omega)
    refine xe_iald (v := nI (gkind G j)) j dX6_carries_22 cc8 (by decide) rfl (by omega) (cg_kind hG (by omega)) ?_
    refine xi_iload_n dX6_carries_23 rfl ?_
    refine xn_icmp_ne (gkind G j) q 31 dX6_carries_24 (by decide) rfl rfl (by omega) (by omega) (fun h24 => ?_) (fun h24 => ?_)
    · skip
      refine xi_iconst (v := 0) dX6_carries_31 rfl ?_
      refine xi_zret (v := 0) dX6_carries_32 rfl (by decide) ?_
      simpa [xb, mcar, ← ho1, h24] using h
    · skip
      refine xi_iconst (v := 1) dX6_carries_27 rfl ?_
      refine xi_goto 32 dX6_carries_28 (by decide) ?_
      refine xi_zret (v := 1) dX6_carries_32 rfl (by decide) ?_
      simpa [xb, mcar, ← ho1, h24] using h

