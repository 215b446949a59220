def jfo (x y : Int32) : Int32 := if ¬ x - x / y * y = 0 ∧ x < 0 then x / y - 1 else x / y
set_option maxHeartbeats 4000000 in
set_option maxRecDepth 100000 in
theorem n_amount {sh : List xSh} {M : xM} {Q : Option Value → xM → Prop} {z : Int} (h1 : -2147483648 ≤ z) (h2 : z < 2147483648) (h : Q (some (.int (nI z.natAbs))) M) : WP sh mX10_amount 0 [some (.int (xz z))] [] M Q := by
  refine xi_iload_n dX10_amount_0 rfl ?_
  refine xi_if_ge 9 dX10_amount_1 (by decide) (fun h1b => ?_) (fun h1b => ?_)
  · skip
    refine xi_iload_n dX10_amount_9 rfl ?_
    refine xi_iret (v := xz z) dX10_amount_10 rfl ?_
    rw [← xz_abs ((xz_ge h1 h2).mp h1b)] at h
    exact h
  · skip
    refine xi_iload_n dX10_amount_4 rfl ?_
    refine xi_ineg dX10_amount_5 ?_
    refine xi_goto 10 dX10_amount_6 (by decide) ?_
    refine xi_iret (v := (-(xz z))) dX10_amount_10 rfl ?_
    rw [← xz_absn (fun q => h1b ((xz_ge h1 h2).mpr q))] at h
    exact h

set_option maxHeartbeats 4000000 in
set_option maxRecDepth 100000 in
theorem n_floor {sh : List xSh} {M : xM} {Q : Option Value → xM → Prop} {x y : Int32} (hy : ¬ y = 0) (h : Q (some (.int (jfo x y))) M) : WP sh mX10_floorOf 0 [some (.int x), some (.int y), none] [] M Q := by
  refine xi_iload_n dX10_floorOf_0 rfl ?_
  refine xi_iload_n dX10_floorOf_1 rfl ?_
  refine xi_idiv dX10_floorOf_2 hy ?_
  refine xi_istore_n (lv' := [some (.int x), some (.int y), some (.int (x / y))]) dX10_floorOf_3 (by decide) rfl ?_
  refine xi_iload_n dX10_floorOf_4 rfl ?_
  refine xi_iload_n dX10_floorOf_5 rfl ?_
  refine xi_irem dX10_floorOf_6 hy ?_
  refine xi_if_eq 20 dX10_floorOf_7 (by decide) (fun h7 => ?_) (fun h7 => ?_)
  · skip
    refine xi_iload_n dX10_floorOf_20 rfl ?_
    refine xi_iret (v := (x / y)) dX10_floorOf_21 rfl ?_
    have e : jfo x y = (x / y) := by unfold jfo; rw [if_neg (fun q => q.1 h7)]
    rw [e] at h
    exact h
  · skip
    refine xi_iload_n dX10_floorOf_10 rfl ?_
    refine xi_if_ge 20 dX10_floorOf_11 (by decide) (fun h11 => ?_) (fun h11 => ?_)
    · skip
      refine xi_iload_n dX10_floorOf_20 rfl ?_
      refine xi_iret (v := (x / y)) dX10_floorOf_21 rfl ?_
      have e : jfo x y = (x / y) := by unfold jfo; rw [if_neg (fun q => Int32.not_lt.mpr h11 q.2)]
      rw [e] at h
      exact h
    · skip
      refine xi_iload_n dX10_floorOf_14 rfl ?_
      refine xi_iconst (v := 1) dX10_floorOf_15 rfl ?_
      refine xi_isub dX10_floorOf_16 ?_
      refine xi_goto 21 dX10_floorOf_17 (by decide) ?_
      refine xi_iret (v := ((x / y) - 1)) dX10_floorOf_21 rfl ?_
      have e : jfo x y = ((x / y) - 1) := by unfold jfo; rw [if_pos ⟨h7, Int32.not_le.mp h11⟩]
      rw [e] at h
      exact h

set_option maxHeartbeats 4000000 in
set_option maxRecDepth 100000 in
theorem n_in {sh : List xSh} {M : xM} {Q : Option Value → xM → Prop} {x l r : Int32} (h : Q (some (.int (xb (decide (l ≤ x ∧ x ≤ r))))) M) : WP sh mX10_in 0 [some (.int x), some (.int l), some (.int r)] [] M Q := by
  refine xi_iload_n dX10_in_0 rfl ?_
  refine xi_iload_n dX10_in_1 rfl ?_
  refine xi_icmp_lt 14 dX10_in_2 (by decide) (fun h2 => ?_) (fun h2 => ?_)
  · skip
    refine xi_iconst (v := 0) dX10_in_14 rfl ?_
    refine xi_zret (v := 0) dX10_in_15 rfl (by decide) ?_
    rw [xb_f (by simp; exact fun q => absurd h2 (Int32.not_lt.mpr q))] at h
    exact h
  · skip
    refine xi_iload_n dX10_in_5 rfl ?_
    refine xi_iload_n dX10_in_6 rfl ?_
    refine xi_icmp_gt 14 dX10_in_7 (by decide) (fun h7 => ?_) (fun h7 => ?_)
    · skip
      refine xi_iconst (v := 0) dX10_in_14 rfl ?_
      refine xi_zret (v := 0) dX10_in_15 rfl (by decide) ?_
      rw [xb_f (by simp; exact fun _ => h7)] at h
      exact h
    · skip
      refine xi_iconst (v := 1) dX10_in_10 rfl ?_
      refine xi_goto 15 dX10_in_11 (by decide) ?_
      refine xi_zret (v := 1) dX10_in_15 rfl (by decide) ?_
      rw [xb_t (by simp; exact ⟨Int32.not_lt.mp h2, Int32.not_lt.mp h7⟩)] at h
      exact h

set_option maxHeartbeats 4000000 in
set_option maxRecDepth 100000 in
theorem n_stands {G : xG} {S : xS} {M : xM} {s : Nat} {Q : Option Value → xM → Prop} (hW : wG G) (hG : MG G M) (hs : s ≤ 56000) (hS : RM G S M s) (hw : wS G S) {n : Nat} (hn : n < gT G) (h : Q (some (.int (xb (decide (0 < sL S n))))) M) : WP shM mX10_stands 0 [some (.ref 0), some (.int (nI s)), some (.int (nI n))] [] M Q := by
  obtain ⟨b1, b2, b3, b4, b5, b6, b7, b8, b9, wmap, wlink, wk0, wk1, b10, b11, wword⟩ := id hW
  refine xi_aload_n dX10_stands_0 rfl ?_
  refine xi_getR dX10_stands_1 fgX10_29 mm0 rfl ?_
  refine xi_iload_n dX10_stands_4 rfl ?_
  have q1 : gkind G n ≤ 7 := hW.kind (by omega)
  refine xe_iald (v := nI (gkind G n)) n dX10_stands_5 mm4 (by decide) rfl (by omega) (mg_kind hG (by omega)) ?_
  refine xi_iconst (v := 2) dX10_stands_6 rfl ?_
  refine xn_icmp_gt (gkind G n) 2 30 dX10_stands_7 (by decide) rfl rfl (by omega) (by omega) (fun h7 => ?_) (fun h7 => ?_)
  · skip
    refine xi_iconst (v := 0) dX10_stands_30 rfl ?_
    refine xi_zret (v := 0) dX10_stands_31 rfl (by decide) ?_
    have hz : ¬ 0 < sL S n := fun q => by have := hw.2.2.1 n hn q; omega
    rw [xb_f (by simpa using hz)] at h
    exact h
  · skip
    refine xi_aload_n dX10_stands_10 rfl ?_
    refine xi_getR dX10_stands_11 fgX10_39 mm0 rfl ?_
    refine xi_iload_n dX10_stands_14 rfl ?_
    refine xi_bipush (v := 6) dX10_stands_15 (by decide) ?_
    refine xi_iload_n dX10_stands_17 rfl ?_
    refine xe_imul dX10_stands_18 (v := nI (6 * n)) (pk_mul 6 n) ?_
    refine xe_iadd dX10_stands_19 (v := nI (s + (6 * n))) (nI_add s (6 * n)) ?_
    refine xi_iconst (v := 1) dX10_stands_20 rfl ?_
    refine xe_iadd dX10_stands_21 (v := nI (s + (6 * n) + 1)) (nI_add (s + (6 * n)) 1) ?_
    have q2 := (hw).2.1 n (by omega)
    refine xe_iald (v := nI (sL S n)) (s + (6 * n) + 1) dX10_stands_22 mm5 (by decide) rfl (by omega) (rmL hS (by omega)) ?_
    refine xn_if_le (sL S n) 30 dX10_stands_23 (by decide) rfl (by omega) (fun h23 => ?_) (fun h23 => ?_)
    · skip
      refine xi_iconst (v := 0) dX10_stands_30 rfl ?_
      refine xi_zret (v := 0) dX10_stands_31 rfl (by decide) ?_
      rw [xb_f (by simp; omega)] at h
      exact h
    · skip
      refine xi_iconst (v := 1) dX10_stands_26 rfl ?_
      refine xi_goto 31 dX10_stands_27 (by decide) ?_
      refine xi_zret (v := 1) dX10_stands_31 rfl (by decide) ?_
      rw [xb_t (by simpa using h23)] at h
      exact h

set_option maxHeartbeats 4000000 in
set_option maxRecDepth 100000 in
theorem n_lies {G : xG} {S : xS} {M : xM} {s : Nat} {Q : Option Value → xM → Prop} (hW : wG G) (hG : MG G M) (hs : s ≤ 56000) (hS : RM G S M s) {n : Nat} (hn : n < gT G) (h : Q (some (.int (xb (decide (2 < gkind G n) && decide (0 ≤ sC S n))))) M) : WP shM mX10_lies 0 [some (.ref 0), some (.int (nI s)), some (.int (nI n))] [] M Q := by
  obtain ⟨b1, b2, b3, b4, b5, b6, b7, b8, b9, wmap, wlink, wk0, wk1, b10, b11, wword⟩ := id hW
  refine xi_aload_n dX10_lies_0 rfl ?_
  refine xi_getR dX10_lies_1 fgX10_29 mm0 rfl ?_
  refine xi_iload_n dX10_lies_4 rfl ?_
  have q1 : gkind G n ≤ 7 := hW.kind (by omega)
  refine xe_iald (v := nI (gkind G n)) n dX10_lies_5 mm4 (by decide) rfl (by omega) (mg_kind hG (by omega)) ?_
  refine xi_iconst (v := 2) dX10_lies_6 rfl ?_
  refine xn_icmp_le (gkind G n) 2 30 dX10_lies_7 (by decide) rfl rfl (by omega) (by omega) (fun h7 => ?_) (fun h7 => ?_)
  · skip
    refine xi_iconst (v := 0) dX10_lies_30 rfl ?_
    refine xi_zret (v := 0) dX10_lies_31 rfl (by decide) ?_
    simpa [xb, Nat.not_lt.mpr h7] using h
  · skip
    refine xi_aload_n dX10_lies_10 rfl ?_
    refine xi_getR dX10_lies_11 fgX10_39 mm0 rfl ?_
    refine xi_iload_n dX10_lies_14 rfl ?_
    refine xi_bipush (v := 6) dX10_lies_15 (by decide) ?_
    refine xi_iload_n dX10_lies_17 rfl ?_
    refine xe_imul dX10_lies_18 (v := nI (6 * n)) (pk_mul 6 n) ?_
    refine xe_iadd dX10_lies_19 (v := nI (s + (6 * n))) (nI_add s (6 * n)) ?_
    refine xi_iconst (v := 0) dX10_lies_20 rfl ?_
    refine xe_iadd dX10_lies_21 (v := nI (s + (6 * n) + 0)) (nI_add (s + (6 * n)) 0) ?_
    refine xe_iald (v := sC S n) (s + (6 * n) + 0) dX10_lies_22 mm5 (by decide) rfl (by omega) (rmC hS (by omega)) ?_
    refine xi_if_lt 30 dX10_lies_23 (by decide) (fun h23 => ?_) (fun h23 => ?_)
    · skip
      refine xi_iconst (v := 0) dX10_lies_30 rfl ?_
      refine xi_zret (v := 0) dX10_lies_31 rfl (by decide) ?_
      simpa [xb, h7, Int32.not_le.mpr h23] using h
    · skip
      refine xi_iconst (v := 1) dX10_lies_26 rfl ?_
      refine xi_goto 31 dX10_lies_27 (by decide) ?_
      refine xi_zret (v := 1) dX10_lies_31 rfl (by decide) ?_
      simpa [xb, h7, Int32.not_lt.mp h23] using h

set_option maxHeartbeats 4000000 in
set_option maxRecDepth 100000 in
theorem n_shut {G : xG} {S : xS} {M : xM} {s : Nat} {Q : Option Value → xM → Prop} (hW : wG G) (hG : MG G M) (hs : s ≤ 56000) (hS : RM G S M s) {k : Nat} (hk : k < gN G) (h : Q (some (.int (xb (mshut G S k)))) M) : WP shM mX10_isShut 0 [some (.ref 0), some (.int (nI s)), some (.int (nI k))] [] M Q := by
  obtain ⟨b1, b2, b3, b4, b5, b6, b7, b8, b9, wmap, wlink, wk0, wk1, b10, b11, wword⟩ := id hW
  refine xi_aload_n dX10_isShut_0 rfl ?_
  refine xi_getR dX10_isShut_1 fgX10_19 mm0 rfl ?_
  refine xi_iload_n dX10_isShut_4 rfl ?_
  have q1 := wmap k (by omega)
  refine xe_iald (v := nI (gmap G k)) k dX10_isShut_5 mm1 (by decide) rfl (by omega) (mg_map hG (by omega)) ?_
  refine xi_iconst (v := 2) dX10_isShut_6 rfl ?_
  refine xn_icmp_ne (gmap G k) 2 33 dX10_isShut_7 (by decide) rfl rfl (by omega) (by omega) (fun h7 => ?_) (fun h7 => ?_)
  · skip
    refine xi_iconst (v := 0) dX10_isShut_33 rfl ?_
    refine xi_zret (v := 0) dX10_isShut_34 rfl (by decide) ?_
    simpa [xb, mshut, h7] using h
  · skip
    refine xi_aload_n dX10_isShut_10 rfl ?_
    refine xi_getR dX10_isShut_11 fgX10_39 mm0 rfl ?_
    refine xi_iload_n dX10_isShut_14 rfl ?_
    refine xi_bipush (v := 96) dX10_isShut_15 (by decide) ?_
    refine xe_iadd dX10_isShut_17 (v := nI (s + 96)) (nI_add s 96) ?_
    refine xi_aload_n dX10_isShut_18 rfl ?_
    refine xi_getR dX10_isShut_19 fgX10_23 mm0 rfl ?_
    refine xi_iload_n dX10_isShut_22 rfl ?_
    have q2 := wlink k (by omega) (by omega)
    refine xe_iald (v := nI (glink G k)) k dX10_isShut_23 mm2 (by decide) rfl (by omega) (mg_link hG (by omega) (by omega)) ?_
    refine xe_iadd dX10_isShut_24 (v := nI (s + 96 + (glink G k))) (nI_add (s + 96) (glink G k)) ?_
    refine xe_iald (v := sO S (glink G k)) (s + 96 + (glink G k)) dX10_isShut_25 mm5 (by decide) rfl (by omega) (rmO hS (by omega)) ?_
    refine xat 26 rfl ?_
    refine xi_if_ne 33 dX10_isShut_26 (by decide) (fun h26 => ?_) (fun h26 => ?_)
    · skip
      refine xi_iconst (v := 0) dX10_isShut_33 rfl ?_
      refine xi_zret (v := 0) dX10_isShut_34 rfl (by decide) ?_
      simpa [xb, mshut, h7, h26] using h
    · skip
      refine xi_iconst (v := 1) dX10_isShut_29 rfl ?_
      refine xi_goto 34 dX10_isShut_30 (by decide) ?_
      refine xi_zret (v := 1) dX10_isShut_34 rfl (by decide) ?_
      simpa [xb, mshut, h7, h26] using h

set_option maxHeartbeats 4000000 in
set_option maxRecDepth 100000 in
theorem n_bars {G : xG} {S : xS} {M : xM} {s : Nat} {Q : Option Value → xM → Prop} (hW : wG G) (hG : MG G M) (hs : s ≤ 56000) (hS : RM G S M s) {k : Nat} (hk : k < gN G) (h : Q (some (.int (xb (mbars G S k)))) M) : WP shM mX10_bars 0 [some (.ref 0), some (.int (nI s)), some (.int (nI k))] [] M Q := by
  obtain ⟨b1, b2, b3, b4, b5, b6, b7, b8, b9, wmap, wlink, wk0, wk1, b10, b11, wword⟩ := id hW
  refine xi_aload_n dX10_bars_0 rfl ?_
  refine xi_getR dX10_bars_1 fgX10_19 mm0 rfl ?_
  refine xi_iload_n dX10_bars_4 rfl ?_
  have q1 := wmap k (by omega)
  refine xe_iald (v := nI (gmap G k)) k dX10_bars_5 mm1 (by decide) rfl (by omega) (mg_map hG (by omega)) ?_
  refine xi_iconst (v := 1) dX10_bars_6 rfl ?_
  refine xn_icmp_eq (gmap G k) 1 19 dX10_bars_7 (by decide) rfl rfl (by omega) (by omega) (fun h7 => ?_) (fun h7 => ?_)
  · skip
    refine xi_iconst (v := 1) dX10_bars_19 rfl ?_
    refine xi_goto 24 dX10_bars_20 (by decide) ?_
    refine xi_zret (v := 1) dX10_bars_24 rfl (by decide) ?_
    simpa [xb, mbars, h7] using h
  · skip
    refine xi_aload_n dX10_bars_10 rfl ?_
    refine xi_iload_n dX10_bars_11 rfl ?_
    refine xi_iload_n dX10_bars_12 rfl ?_
    refine xi_callV [.int (nI s), .int (nI k)] [] dX10_bars_13 zX10_isShut mlX10_165 mm0 rfl rfl rfl rfl rfl (Nat.le_of_ble_eq_true rfl) (Nat.le_of_ble_eq_true rfl) ⟨by decide, by decide⟩ ?_
    refine n_shut hW hG hs hS (k := k) (by omega) ?_
    show WP _ _ 16 _ [.int (xb (mshut G S k))] _ _
    refine xb_if_eq (mshut G S k) 23 dX10_bars_16 (by decide) rfl (fun h16 => ?_) (fun h16 => ?_)
    · skip
      refine xi_iconst (v := 0) dX10_bars_23 rfl ?_
      refine xi_zret (v := 0) dX10_bars_24 rfl (by decide) ?_
      simpa [xb, mbars, h7, h16] using h
    · skip
      refine xi_iconst (v := 1) dX10_bars_19 rfl ?_
      refine xi_goto 24 dX10_bars_20 (by decide) ?_
      refine xi_zret (v := 1) dX10_bars_24 rfl (by decide) ?_
      simpa [xb, mbars, h7, h16] using h

set_option maxHeartbeats 4000000 in
set_option maxRecDepth 100000 in
theorem nl_stand {G : xG} {S : xS} {M : xM} {s : Nat} {Q : Option Value → xM → Prop} (hW : wG G) (hG : MG G M) (hs : s ≤ 56000) (hS : RM G S M s) (hw : wS G S) {k : Nat} : ∀ (f n : Nat), n + f = gT G → Q (some (.int (xo (mstF (sC S) (sL S) (nI k) n f)))) M → WP shM mX10_standingIn 2 [some (.ref 0), some (.int (nI s)), some (.int (nI k)), some (.int (nI n))] [] M Q := by
  obtain ⟨b1, b2, b3, b4, b5, b6, b7, b8, b9, wmap, wlink, wk0, wk1, b10, b11, wword⟩ := id hW
  intro f
  induction f with
  | zero =>
    intro n hf h
    refine xi_iload_n dX10_standingIn_2 rfl ?_
    refine xi_aload_n dX10_standingIn_3 rfl ?_
    refine xe_getI (v := nI (gT G)) dX10_standingIn_4 fgX10_107 mm0 rfl (mg_T hG) ?_
    refine xn_icmp_ge n (gT G) 44 dX10_standingIn_7 (by decide) rfl rfl (by omega) (by omega) (fun h7 => ?_) (fun h7 => ?_)
    · skip
      refine xi_iconst (v := (-1)) dX10_standingIn_44 rfl ?_
      refine xi_iret (v := (-1)) dX10_standingIn_45 rfl ?_
      exact h
    · omega
  | succ f ih =>
    intro n hf h
    refine xi_iload_n dX10_standingIn_2 rfl ?_
    refine xi_aload_n dX10_standingIn_3 rfl ?_
    refine xe_getI (v := nI (gT G)) dX10_standingIn_4 fgX10_107 mm0 rfl (mg_T hG) ?_
    refine xn_icmp_ge n (gT G) 44 dX10_standingIn_7 (by decide) rfl rfl (by omega) (by omega) (fun h7 => ?_) (fun h7 => ?_)
    · omega
    · skip
      refine xi_aload_n dX10_standingIn_10 rfl ?_
      refine xi_iload_n dX10_standingIn_11 rfl ?_
      refine xi_iload_n dX10_standingIn_12 rfl ?_
      refine xi_callV [.int (nI s), .int (nI n)] [] dX10_standingIn_13 zX10_stands mlX10_161 mm0 rfl rfl rfl rfl rfl (Nat.le_of_ble_eq_true rfl) (Nat.le_of_ble_eq_true rfl) ⟨by decide, by decide⟩ ?_
      refine n_stands hW hG hs hS hw (n := n) (by omega) ?_
      show WP _ _ 16 _ [.int (xb (decide (0 < sL S n)))] _ _
      refine xb_if_eq (decide (0 < sL S n)) 38 dX10_standingIn_16 (by decide) rfl (fun h16 => ?_) (fun h16 => ?_)
      · skip
        refine xi_iinc (v := nI (n + 1)) (lv' := [some (.ref 0), some (.int (nI s)), some (.int (nI k)), some (.int (nI (n + 1)))]) dX10_standingIn_38 rfl (xinc n) (by decide) rfl ?_
        refine xi_goto 2 dX10_standingIn_41 (by decide) ?_
        rw [mstF, if_neg (fun q => by simp at h16; omega)] at h
        exact ih (n + 1) (by omega) h
      · skip
        refine xi_aload_n dX10_standingIn_19 rfl ?_
        refine xi_getR dX10_standingIn_20 fgX10_39 mm0 rfl ?_
        refine xi_iload_n dX10_standingIn_23 rfl ?_
        refine xi_bipush (v := 6) dX10_standingIn_24 (by decide) ?_
        refine xi_iload_n dX10_standingIn_26 rfl ?_
        refine xe_imul dX10_standingIn_27 (v := nI (6 * n)) (pk_mul 6 n) ?_
        refine xe_iadd dX10_standingIn_28 (v := nI (s + (6 * n))) (nI_add s (6 * n)) ?_
        refine xi_iconst (v := 0) dX10_standingIn_29 rfl ?_
        refine xe_iadd dX10_standingIn_30 (v := nI (s + (6 * n) + 0)) (nI_add (s + (6 * n)) 0) ?_
        refine xe_iald (v := sC S n) (s + (6 * n) + 0) dX10_standingIn_31 mm5 (by decide) rfl (by omega) (rmC hS (by omega)) ?_
        refine xi_iload_n dX10_standingIn_32 rfl ?_
        refine xat 33 rfl ?_
        refine xi_icmp_ne 38 dX10_standingIn_33 (by decide) (fun h33 => ?_) (fun h33 => ?_)
        · skip
          refine xi_iinc (v := nI (n + 1)) (lv' := [some (.ref 0), some (.int (nI s)), some (.int (nI k)), some (.int (nI (n + 1)))]) dX10_standingIn_38 rfl (xinc n) (by decide) rfl ?_
          refine xi_goto 2 dX10_standingIn_41 (by decide) ?_
          rw [mstF, if_neg (fun q => h33 q.1)] at h
          exact ih (n + 1) (by omega) h
        · skip
          refine xi_iload_n dX10_standingIn_36 rfl ?_
          refine xi_iret (v := nI n) dX10_standingIn_37 rfl ?_
          rw [mstF, if_pos ⟨h33, by simpa using h16⟩] at h
          exact h

set_option maxHeartbeats 4000000 in
set_option maxRecDepth 100000 in
theorem n_stand {G : xG} {S : xS} {M : xM} {s : Nat} {Q : Option Value → xM → Prop} (hW : wG G) (hG : MG G M) (hs : s ≤ 56000) (hS : RM G S M s) (hw : wS G S) {k : Nat} (h : Q (some (.int (xo (mstand G S k)))) M) : WP shM mX10_standingIn 0 [some (.ref 0), some (.int (nI s)), some (.int (nI k)), none] [] M Q := by
  obtain ⟨b1, b2, b3, b4, b5, b6, b7, b8, b9, wmap, wlink, wk0, wk1, b10, b11, wword⟩ := id hW
  refine xi_iconst (v := 0) dX10_standingIn_0 rfl ?_
  refine xi_istore_n (lv' := [some (.ref 0), some (.int (nI s)), some (.int (nI k)), some (.int 0)]) dX10_standingIn_1 (by decide) rfl ?_
  exact nl_stand hW hG hs hS hw (gT G) 0 (by omega) h

set_option maxHeartbeats 4000000 in
set_option maxRecDepth 100000 in
theorem n_free {G : xG} {S : xS} {M : xM} {s : Nat} {Q : Option Value → xM → Prop} (hW : wG G) (hG : MG G M) (hs : s ≤ 56000) (hS : RM G S M s) (hw : wS G S) {o : Option Nat} (ho : ∀ k, o = some k → k < gN G) (h : Q (some (.int (xb (mfree G S o)))) M) : WP shM mX10_isFree 0 [some (.ref 0), some (.int (nI s)), some (.int (xo o))] [] M Q := by
  obtain ⟨b1, b2, b3, b4, b5, b6, b7, b8, b9, wmap, wlink, wk0, wk1, b10, b11, wword⟩ := id hW
  refine xi_iload_n dX10_isFree_0 rfl ?_
  refine xo_if_lt o 26 dX10_isFree_1 (by decide) rfl (fun k q => by have := ho k q; omega) (fun h1 => ?_) (fun k h1 => ?_)
  · subst h1
    refine xi_iconst (v := 0) dX10_isFree_26 rfl ?_
    refine xi_zret (v := 0) dX10_isFree_27 rfl (by decide) ?_
    simpa [xb, mfree] using h
  · subst h1
    have hk := ho k rfl
    refine xi_aload_n dX10_isFree_4 rfl ?_
    refine xi_iload_n dX10_isFree_5 rfl ?_
    refine xi_iload_n dX10_isFree_6 rfl ?_
    refine xi_callV [.int (nI s), .int (xo (some k))] [] dX10_isFree_7 zX10_bars mlX10_175 mm0 rfl rfl rfl rfl rfl (Nat.le_of_ble_eq_true rfl) (Nat.le_of_ble_eq_true rfl) ⟨by decide, by decide⟩ ?_
    refine n_bars hW hG hs hS (k := k) (by omega) ?_
    show WP _ _ 10 _ [.int (xb (mbars G S k))] _ _
    refine xb_if_ne (mbars G S k) 26 dX10_isFree_10 (by decide) rfl (fun h10 => ?_) (fun h10 => ?_)
    · skip
      refine xi_iconst (v := 0) dX10_isFree_26 rfl ?_
      refine xi_zret (v := 0) dX10_isFree_27 rfl (by decide) ?_
      simpa [xb, mfree, h10] using h
    · skip
      refine xi_aload_n dX10_isFree_13 rfl ?_
      refine xi_iload_n dX10_isFree_14 rfl ?_
      refine xi_iload_n dX10_isFree_15 rfl ?_
      refine xi_callV [.int (nI s), .int (xo (some k))] [] dX10_isFree_16 zX10_standingIn mlX10_156 mm0 rfl rfl rfl rfl rfl (Nat.le_of_ble_eq_true rfl) (Nat.le_of_ble_eq_true rfl) ⟨by decide, by decide⟩ ?_
      refine n_stand hW hG hs hS hw (k := k) ?_
      show WP _ _ 19 _ [.int (xo (mstand G S k))] _ _
      generalize eo16 : mstand G S k = o16
      refine xo_if_ge o16 26 dX10_isFree_19 (by decide) rfl (fun m q => by have := mstand_lt (eo16.trans q); omega) (fun m h19 => ?_) (fun h19 => ?_)
      · subst h19
        refine xi_iconst (v := 0) dX10_isFree_26 rfl ?_
        refine xi_zret (v := 0) dX10_isFree_27 rfl (by decide) ?_
        simpa [xb, mfree, eo16, h10] using h
      · subst h19
        refine xi_iconst (v := 1) dX10_isFree_22 rfl ?_
        refine xi_goto 27 dX10_isFree_23 (by decide) ?_
        refine xi_zret (v := 1) dX10_isFree_27 rfl (by decide) ?_
        simpa [xb, mfree, eo16, h10] using h

