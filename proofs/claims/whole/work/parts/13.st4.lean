theorem mline_lt {G : xG} {S : xS} {d : Nat} : ∀ (f : Nat) (o : Option Nat) (n : Nat), mline G S d f o = some n → n < gT G
  | 0, o, n, h => by simp [mline] at h
  | f + 1, none, n, h => by simp [mline] at h
  | f + 1, some k, n, h => by
    rw [mline] at h
    split at h
    · cases h
    · cases e : mstand G S k with
      | some m => rw [e] at h; cases h; exact (mstand_lt e).1
      | none => rw [e] at h; exact mline_lt f _ n h
theorem mfly_lt {G : xG} {S : xS} {d : Nat} (hW : wG G) : ∀ (f l : Nat) (o : Option Nat), l < gN G → (∀ k, o = some k → k < gN G) → (mfly G S d f l o).1 < gN G ∧ ∀ n, (mfly G S d f l o).2 = some n → n < gT G
  | 0, l, o, hl, ho => ⟨hl, fun n h => by simp [mfly] at h⟩
  | f + 1, l, none, hl, ho => ⟨hl, fun n h => by simp [mfly] at h⟩
  | f + 1, l, some k, hl, ho => by
    rw [mfly]
    split
    · exact ⟨hl, fun n h => by cases h⟩
    · cases e : mstand G S k with
      | some m => exact ⟨ho k rfl, fun n h => by cases h; exact (mstand_lt e).1⟩
      | none => exact mfly_lt hW f k _ (ho k rfl) (fun j q => mnext_lt hW (ho k rfl) q)
theorem wS_shoot {G : xG} {S : xS} {p d : Nat} (hW : wG G) (h : wS G S) (hp : p < gP G) : wS G (mshoot G S p d).2 := by
  have h1 : wS G (uR (uF S p (nI d)) p 3) := wS_uR (wS_uF h) (by omega)
  unfold mshoot
  split
  · cases e : mline G (uR (uF S p (nI d)) p 3) d 7 (mnext G (mpos S p) d) with
    | none => exact h1
    | some n => exact wS_hurt h1 (mline_lt _ _ _ e)
  · exact h
theorem wS_hurl {G : xG} {S : xS} {p d : Nat} (hW : wG G) (h : wS G S) (hp : p < gP G) : wS G (mhurl G S p d).2 := by
  have h1 : wS G (uF S p (nI d)) := wS_uF h
  have hq := mpos_P hW h hp
  by_cases c : mcar G S p 5 = true
  · rw [mhurl_eq c]
    have h2 := mfly_lt (S := uF S p (nI d)) (d := d) hW 4 (mpos S p) (mnext G (mpos S p) d) hq.2 (fun j q => mnext_lt hW hq.2 q)
    generalize mfly G (uF S p (nI d)) d 4 (mpos S p) (mnext G (mpos S p) d) = q at h2
    obtain ⟨l, v⟩ := q
    cases v with
    | none => exact wS_let h1 hp
    | some n => exact wS_hurt (wS_let h1 hp) (h2.2 n rfl)
  · unfold mhurl
    rw [if_neg c]
    exact h
theorem wS_try {G : xG} {S : xS} {p d w : Nat} (h : wS G S) : wS G (mtry G S p d w) := by
  unfold mtry
  split
  · exact h
  · split <;> exact h
theorem wS_pkL {G : xG} {p : Nat} : ∀ (f n : Nat) (S : xS), n + f ≤ gT G → wS G S → wS G (mpkL G p n f S)
  | 0, n, S, hf, h => h
  | f + 1, n, S, hf, h => by
    rw [mpkL]
    split
    · exact h
    · refine wS_pkL f (n + 1) _ (by omega) ?_
      split
      · rename_i q
        exact wS_uC_it (wS_uB (wS_uH h (fun j z => by cases z; exact ⟨by omega, q.1⟩))) (by omega)
      · exact h
theorem wS_pk {G : xG} {S : xS} {p : Nat} (h : wS G S) : wS G (mpk G S p) := wS_pkL _ _ _ (by omega) h
set_option maxHeartbeats 4000000 in
set_option maxRecDepth 100000 in
theorem s_at {G : xG} {S : xS} {M : xM} {r : Nat} {Q : Option Value → xM → Prop} (hW : wG G) (hG : CG G M) (hr : isSt r) (hS : CS G S M r) (hw : wS G S) {n k : Nat} (hn : n < gT G) (h : Q (some (.int (xb (mat G S n k)))) M) : WP shC mX6_standsOrLiesIn 0 [some (.ref r), some (.int (nI n)), some (.int (nI k))] [] M Q := by
  obtain ⟨b1, b2, b3, b4, b5, b6, b7, b8, b9, wmap, wlink, wk0, wk1, b10, b11, wword⟩ := id hW
  refine xi_aload_n dX6_standsOrLiesIn_0 rfl ?_
  refine xi_getR dX6_standsOrLiesIn_1 fgX6_9 (so hr) rfl ?_
  refine xi_iload_n dX6_standsOrLiesIn_4 rfl ?_
  refine xe_iald (v := sC S n) n dX6_standsOrLiesIn_5 (sa1 hr) (by decide) rfl (by omega) (csC hS (by omega)) ?_
  refine xi_iload_n dX6_standsOrLiesIn_6 rfl ?_
  refine xi_icmp_ne 36 dX6_standsOrLiesIn_7 (by decide) (fun h7 => ?_) (fun h7 => ?_)
  · skip
    refine xi_iconst (v := 0) dX6_standsOrLiesIn_36 rfl ?_
    refine xi_zret (v := 0) dX6_standsOrLiesIn_37 rfl (by decide) ?_
    simpa [xb, mat, h7] using h
  · skip
    refine xi_aload_n dX6_standsOrLiesIn_10 rfl ?_
    refine xi_getR dX6_standsOrLiesIn_11 fgX6_39 (so hr) rfl ?_
    refine xi_getR dX6_standsOrLiesIn_14 fgX6_72 cc1 rfl ?_
    refine xi_iload_n dX6_standsOrLiesIn_17 rfl ?_
    have q2 : gkind G n ≤ 7 := hW.kind (by omega)
    refine xe_iald (v := nI (gkind G n)) n dX6_standsOrLiesIn_18 cc8 (by decide) rfl (by omega) (cg_kind hG (by omega)) ?_
    refine xi_iconst (v := 2) dX6_standsOrLiesIn_19 rfl ?_
    refine xn_icmp_gt (gkind G n) 2 32 dX6_standsOrLiesIn_20 (by decide) rfl rfl (by omega) (by omega) (fun h20 => ?_) (fun h20 => ?_)
    · skip
      refine xi_iconst (v := 1) dX6_standsOrLiesIn_32 rfl ?_
      refine xi_goto 37 dX6_standsOrLiesIn_33 (by decide) ?_
      refine xi_zret (v := 1) dX6_standsOrLiesIn_37 rfl (by decide) ?_
      simpa [xb, mat, h7, h20] using h
    · skip
      refine xi_aload_n dX6_standsOrLiesIn_23 rfl ?_
      refine xi_getR dX6_standsOrLiesIn_24 fgX6_15 (so hr) rfl ?_
      refine xi_iload_n dX6_standsOrLiesIn_27 rfl ?_
      have q3 := (hw).2.1 n (by omega)
      refine xe_iald (v := nI (sL S n)) n dX6_standsOrLiesIn_28 (sa2 hr) (by decide) rfl (by omega) (csL hS (by omega)) ?_
      refine xn_if_le (sL S n) 36 dX6_standsOrLiesIn_29 (by decide) rfl (by omega) (fun h29 => ?_) (fun h29 => ?_)
      · skip
        refine xi_iconst (v := 0) dX6_standsOrLiesIn_36 rfl ?_
        refine xi_zret (v := 0) dX6_standsOrLiesIn_37 rfl (by decide) ?_
        simpa [xb, mat, h7, Nat.not_lt.mpr h20, h29] using h
      · skip
        refine xi_iconst (v := 1) dX6_standsOrLiesIn_32 rfl ?_
        refine xi_goto 37 dX6_standsOrLiesIn_33 (by decide) ?_
        refine xi_zret (v := 1) dX6_standsOrLiesIn_37 rfl (by decide) ?_
        simpa [xb, mat, h7, Nat.not_lt.mpr h20, h29] using h

set_option maxHeartbeats 4000000 in
set_option maxRecDepth 100000 in
theorem s_look {G : xG} {S : xS} {M : xM} {r : Nat} {Q : Option Value → xM → Prop} (hW : wG G) (hG : CG G M) (hr : isSt r) (hS : CS G S M r) {k : Nat} (hk : k < gN G) (h : Q (some (.int (nI (mlook G S k)))) M) : WP shC mX6_looksOf 0 [some (.ref r), some (.int (nI k))] [] M Q := by
  obtain ⟨b1, b2, b3, b4, b5, b6, b7, b8, b9, wmap, wlink, wk0, wk1, b10, b11, wword⟩ := id hW
  refine xi_aload_n dX6_looksOf_0 rfl ?_
  refine xi_getR dX6_looksOf_1 fgX6_39 (so hr) rfl ?_
  refine xi_getR dX6_looksOf_4 fgX6_78 cc1 rfl ?_
  refine xi_iload_n dX6_looksOf_7 rfl ?_
  have q1 := wmap k (by omega)
  refine xe_iald (v := nI (gmap G k)) k dX6_looksOf_8 cc2 (by decide) rfl (by omega) (cg_map hG (by omega)) ?_
  refine xi_iconst (v := 2) dX6_looksOf_9 rfl ?_
  refine xn_icmp_ne (gmap G k) 2 34 dX6_looksOf_10 (by decide) rfl rfl (by omega) (by omega) (fun h10 => ?_) (fun h10 => ?_)
  · skip
    refine xi_aload_n dX6_looksOf_34 rfl ?_
    refine xi_getR dX6_looksOf_35 fgX6_39 (so hr) rfl ?_
    refine xi_getR dX6_looksOf_38 fgX6_78 cc1 rfl ?_
    refine xi_iload_n dX6_looksOf_41 rfl ?_
    have q2 := wmap k (by omega)
    refine xe_iald (v := nI (gmap G k)) k dX6_looksOf_42 cc2 (by decide) rfl (by omega) (cg_map hG (by omega)) ?_
    refine xi_iret (v := nI (gmap G k)) dX6_looksOf_43 rfl ?_
    have e : mlook G S k = gmap G k := by unfold mlook; rw [if_neg (by exact fun q => h10 q.1)]
    rw [e] at h
    exact h
  · skip
    refine xi_aload_n dX6_looksOf_13 rfl ?_
    refine xi_getR dX6_looksOf_14 fgX6_36 (so hr) rfl ?_
    refine xi_aload_n dX6_looksOf_17 rfl ?_
    refine xi_getR dX6_looksOf_18 fgX6_39 (so hr) rfl ?_
    refine xi_getR dX6_looksOf_21 fgX6_81 cc1 rfl ?_
    refine xi_iload_n dX6_looksOf_24 rfl ?_
    have q3 := wlink k (by omega) (by omega)
    refine xe_iald (v := nI (glink G k)) k dX6_looksOf_25 cc3 (by decide) rfl (by omega) (cg_link hG (by omega) (by omega)) ?_
    refine xe_iald (v := sO S (glink G k)) (glink G k) dX6_looksOf_26 (sa9 hr) (by decide) rfl (by omega) (csO hS (by omega)) ?_
    refine xi_if_eq 34 dX6_looksOf_27 (by decide) (fun h27 => ?_) (fun h27 => ?_)
    · skip
      refine xi_aload_n dX6_looksOf_34 rfl ?_
      refine xi_getR dX6_looksOf_35 fgX6_39 (so hr) rfl ?_
      refine xi_getR dX6_looksOf_38 fgX6_78 cc1 rfl ?_
      refine xi_iload_n dX6_looksOf_41 rfl ?_
      have q5 := wmap k (by omega)
      refine xe_iald (v := nI (gmap G k)) k dX6_looksOf_42 cc2 (by decide) rfl (by omega) (cg_map hG (by omega)) ?_
      refine xi_iret (v := nI (gmap G k)) dX6_looksOf_43 rfl ?_
      have e : mlook G S k = gmap G k := by unfold mlook; rw [if_neg (by exact fun q => q.2 h27)]
      rw [e] at h
      exact h
    · skip
      refine xi_iconst (v := 4) dX6_looksOf_30 rfl ?_
      refine xi_goto 43 dX6_looksOf_31 (by decide) ?_
      refine xi_iret (v := 4) dX6_looksOf_43 rfl ?_
      have e : mlook G S k = 4 := by unfold mlook; rw [if_pos ⟨h10, h27⟩]
      rw [e] at h
      exact h

set_option maxHeartbeats 4000000 in
set_option maxRecDepth 100000 in
theorem l_has {G : xG} {S : xS} {M : xM} {r : Nat} {Q : Option Value → xM → Prop} (hW : wG G) (hG : CG G M) (hr : isSt r) (hS : CS G S M r) {k : Nat} : ∀ (f n : Nat), n + f = gT G → Q (some (.int (xb (mhasF (sC S) (nI k) n f)))) M → WP shC mX6_holdsThing 2 [some (.ref r), some (.int (nI k)), some (.int (nI n))] [] M Q := by
  obtain ⟨b1, b2, b3, b4, b5, b6, b7, b8, b9, wmap, wlink, wk0, wk1, b10, b11, wword⟩ := id hW
  intro f
  induction f with
  | zero =>
    intro n hf h
    refine xi_iload_n dX6_holdsThing_2 rfl ?_
    refine xi_aload_n dX6_holdsThing_3 rfl ?_
    refine xi_getR dX6_holdsThing_4 fgX6_39 (so hr) rfl ?_
    refine xe_getI (v := nI (gT G)) dX6_holdsThing_7 fgX6_75 cc1 rfl (cg_T hG) ?_
    refine xn_icmp_ge n (gT G) 31 dX6_holdsThing_10 (by decide) rfl rfl (by omega) (by omega) (fun h10 => ?_) (fun h10 => ?_)
    · skip
      refine xi_iconst (v := 0) dX6_holdsThing_31 rfl ?_
      refine xi_zret (v := 0) dX6_holdsThing_32 rfl (by decide) ?_
      exact h
    · omega
  | succ f ih =>
    intro n hf h
    refine xi_iload_n dX6_holdsThing_2 rfl ?_
    refine xi_aload_n dX6_holdsThing_3 rfl ?_
    refine xi_getR dX6_holdsThing_4 fgX6_39 (so hr) rfl ?_
    refine xe_getI (v := nI (gT G)) dX6_holdsThing_7 fgX6_75 cc1 rfl (cg_T hG) ?_
    refine xn_icmp_ge n (gT G) 31 dX6_holdsThing_10 (by decide) rfl rfl (by omega) (by omega) (fun h10 => ?_) (fun h10 => ?_)
    · omega
    · skip
      refine xi_aload_n dX6_holdsThing_13 rfl ?_
      refine xi_getR dX6_holdsThing_14 fgX6_9 (so hr) rfl ?_
      refine xi_iload_n dX6_holdsThing_17 rfl ?_
      refine xe_iald (v := sC S n) n dX6_holdsThing_18 (sa1 hr) (by decide) rfl (by omega) (csC hS (by omega)) ?_
      refine xi_iload_n dX6_holdsThing_19 rfl ?_
      refine xi_icmp_ne 25 dX6_holdsThing_20 (by decide) (fun h20 => ?_) (fun h20 => ?_)
      · skip
        refine xi_iinc (v := nI (n + 1)) (lv' := [some (.ref r), some (.int (nI k)), some (.int (nI (n + 1)))]) dX6_holdsThing_25 rfl (xinc n) (by decide) rfl ?_
        refine xi_goto 2 dX6_holdsThing_28 (by decide) ?_
        rw [mhasF, if_neg h20] at h
        exact ih (n + 1) (by omega) h
      · skip
        refine xi_iconst (v := 1) dX6_holdsThing_23 rfl ?_
        refine xi_zret (v := 1) dX6_holdsThing_24 rfl (by decide) ?_
        rw [mhasF, if_pos h20] at h
        exact h

set_option maxHeartbeats 4000000 in
set_option maxRecDepth 100000 in
theorem s_has {G : xG} {S : xS} {M : xM} {r : Nat} {Q : Option Value → xM → Prop} (hW : wG G) (hG : CG G M) (hr : isSt r) (hS : CS G S M r) {k : Nat} (h : Q (some (.int (xb (mhas G S k)))) M) : WP shC mX6_holdsThing 0 [some (.ref r), some (.int (nI k)), none] [] M Q := by
  obtain ⟨b1, b2, b3, b4, b5, b6, b7, b8, b9, wmap, wlink, wk0, wk1, b10, b11, wword⟩ := id hW
  refine xi_iconst (v := 0) dX6_holdsThing_0 rfl ?_
  refine xi_istore_n (lv' := [some (.ref r), some (.int (nI k)), some (.int 0)]) dX6_holdsThing_1 (by decide) rfl ?_
  exact l_has hW hG hr hS (gT G) 0 (by omega) h

set_option maxHeartbeats 4000000 in
set_option maxRecDepth 100000 in
theorem s_wn {G : xG} {S : xS} {M : xM} {r : Nat} {Q : Option Value → xM → Prop} (hW : wG G) (hG : CG G M) (hr : isSt r) (hS : CS G S M r) (hw : wS G S) {p d w : Nat} (hp : p < gP G) (hd : d < 4) (hwd : w < 16) (h : Q (some (.int (xb (mwn G S p d w)))) M) : WP shC mX6_isWordNext 0 [some (.ref r), some (.int (nI p)), some (.int (nI d)), some (.int (nI w)), none] [] M Q := by
  obtain ⟨b1, b2, b3, b4, b5, b6, b7, b8, b9, wmap, wlink, wk0, wk1, b10, b11, wword⟩ := id hW
  have hmp := mpos_P hW hw hp
  refine xi_aload_n dX6_isWordNext_0 rfl ?_
  refine xi_getR dX6_isWordNext_1 fgX6_39 (so hr) rfl ?_
  refine xi_aload_n dX6_isWordNext_4 rfl ?_
  refine xi_getR dX6_isWordNext_5 fgX6_9 (so hr) rfl ?_
  refine xi_iload_n dX6_isWordNext_8 rfl ?_
  refine xe_iald (v := nI (mpos S p)) p dX6_isWordNext_9 (sa1 hr) (by decide) rfl (by omega) ((csC hS (by omega)).trans hmp.1) ?_
  refine xi_iload_n dX6_isWordNext_10 rfl ?_
  refine xi_callV [.int (nI (mpos S p)), .int (nI d)] [] dX6_isWordNext_11 zX1_nextTo mlX6_146 cc1 rfl rfl rfl rfl rfl (Nat.le_of_ble_eq_true rfl) (Nat.le_of_ble_eq_true rfl) ⟨by decide, by decide⟩ ?_
  refine g_next hW hG (k := mpos S p) (d := d) (by omega) (by omega) ?_
  show WP _ _ 14 _ [.int (xo (mnext G (mpos S p) d))] _ _
  generalize eo11 : mnext G (mpos S p) d = o11
  refine xi_istore (lv' := [some (.ref r), some (.int (nI p)), some (.int (nI d)), some (.int (nI w)), some (.int (xo o11))]) dX6_isWordNext_14 (by decide) rfl ?_
  refine xi_aload_n dX6_isWordNext_16 rfl ?_
  refine xi_iload dX6_isWordNext_17 rfl ?_
  refine xi_callV [.int (xo o11)] [] dX6_isWordNext_19 zX6_isShutDoor mlX6_165 (so hr) rfl rfl rfl rfl rfl (Nat.le_of_ble_eq_true rfl) (Nat.le_of_ble_eq_true rfl) ⟨by decide, by decide⟩ ?_
  refine s_shut hW hG hr hS (o := o11) (fun j q => mnext_lt hW hmp.2 (eo11.trans q)) ?_
  show WP _ _ 22 _ [.int (xb (mshutO G S o11))] _ _
  refine xb_if_eq (mshutO G S o11) 51 dX6_isWordNext_22 (by decide) rfl (fun h22 => ?_) (fun h22 => ?_)
  · skip
    refine xi_iconst (v := 0) dX6_isWordNext_51 rfl ?_
    refine xi_zret (v := 0) dX6_isWordNext_52 rfl (by decide) ?_
    have e : mwn G S p d w = false := by cases o11 <;> simp_all [mwn, mshutO]
    rw [e] at h
    exact h
  · skip
    obtain ⟨k, rfl⟩ : ∃ k, o11 = some k := by
      cases o11 with
      | none => simp [mshutO] at h22
      | some k => exact ⟨k, rfl⟩
    show WP _ _ 25 [some (.ref r), some (.int (nI p)), some (.int (nI d)), some (.int (nI w)), some (.int (nI k))] [] _ _
    have hk := mnext_lt hW hmp.2 eo11
    have hm2 : gmap G k = 2 := by simp [mshutO, mshut] at h22; exact h22.1
    refine xi_aload_n dX6_isWordNext_25 rfl ?_
    refine xi_getR dX6_isWordNext_26 fgX6_39 (so hr) rfl ?_
    refine xi_getR dX6_isWordNext_29 fgX6_169 cc1 rfl ?_
    refine xi_aload_n dX6_isWordNext_32 rfl ?_
    refine xi_getR dX6_isWordNext_33 fgX6_39 (so hr) rfl ?_
    refine xi_getR dX6_isWordNext_36 fgX6_81 cc1 rfl ?_
    refine xi_iload dX6_isWordNext_39 rfl ?_
    have q1 := wlink k (by omega) (by omega)
    refine xe_iald (v := nI (glink G k)) k dX6_isWordNext_41 cc3 (by decide) rfl (by omega) (cg_link hG (by omega) (by omega)) ?_
    have q2 := wword (glink G k) (by omega)
    refine xe_iald (v := nI (gword G (glink G k))) (glink G k) dX6_isWordNext_42 cc7 (by decide) rfl (by omega) (cg_word hG (by omega)) ?_
    refine xi_iload_n dX6_isWordNext_43 rfl ?_
    refine xn_icmp_ne (gword G (glink G k)) w 51 dX6_isWordNext_44 (by decide) rfl rfl (by omega) (by omega) (fun h44 => ?_) (fun h44 => ?_)
    · skip
      refine xi_iconst (v := 0) dX6_isWordNext_51 rfl ?_
      refine xi_zret (v := 0) dX6_isWordNext_52 rfl (by decide) ?_
      have e : mwn G S p d w = false := by
        have h22b : mshut G S k = true := h22
        simp [mwn, eo11, h22b, h44]
      rw [e] at h
      exact h
    · skip
      refine xi_iconst (v := 1) dX6_isWordNext_47 rfl ?_
      refine xi_goto 52 dX6_isWordNext_48 (by decide) ?_
      refine xi_zret (v := 1) dX6_isWordNext_52 rfl (by decide) ?_
      have e : mwn G S p d w = true := by
        have h22b : mshut G S k = true := h22
        simp [mwn, eo11, h22b, h44]
      rw [e] at h
      exact h

set_option maxHeartbeats 4000000 in
set_option maxRecDepth 100000 in
theorem s_try {G : xG} {S : xS} {M : xM} {r : Nat} {Q : Option Value → xM → Prop} (hW : wG G) (hG : CG G M) (hr : isSt r) (hS : CS G S M r) (hw : wS G S) {p d w : Nat} (hp : p < gP G) (hd : d < 4) (hwd : w < 16) (h : ∀ M2, Fr r M M2 → CS G (mtry G S p d w) M2 r → Q none M2) : WP shC mX6_tryWord 0 [some (.ref r), some (.int (nI p)), some (.int (nI d)), some (.int (nI w))] [] M Q := by
  obtain ⟨b1, b2, b3, b4, b5, b6, b7, b8, b9, wmap, wlink, wk0, wk1, b10, b11, wword⟩ := id hW
  have hmp := mpos_P hW hw hp
  refine xi_aload_n dX6_tryWord_0 rfl ?_
  refine xi_getR dX6_tryWord_1 fgX6_21 (so hr) rfl ?_
  refine xi_iload_n dX6_tryWord_4 rfl ?_
  refine xi_iload_n dX6_tryWord_5 rfl ?_
  refine xe_iast p dX6_tryWord_6 (sa4 hr) (by decide) rfl (by omega) ?_
  generalize eM1 : (xa M (r + 4) (upd (M.2.1 (r + 4)) p (nI d))) = M1
  have hS1 : CS G (uF S p (nI d)) M1 r := by rw [← eM1]; exact csuF hS p (nI d)
  have hF1 : Fr r M M1 := by rw [← eM1]; exact Fr.xa (by decide) (by decide)
  have hG1 : CG G M1 := CG.fr hG hr hF1
  have hw1 : wS G (uF S p (nI d)) := (wS_uF hw)
  refine xi_aload_n dX6_tryWord_7 rfl ?_
  refine xi_iload_n dX6_tryWord_8 rfl ?_
  refine xi_iload_n dX6_tryWord_9 rfl ?_
  refine xi_iload_n dX6_tryWord_10 rfl ?_
  refine xi_callV [.int (nI p), .int (nI d), .int (nI w)] [] dX6_tryWord_11 zX6_isWordNext mlX6_206 (so hr) rfl rfl rfl rfl rfl (Nat.le_of_ble_eq_true rfl) (Nat.le_of_ble_eq_true rfl) ⟨by decide, by decide⟩ ?_
  refine s_wn hW hG1 hr hS1 hw1 (p := p) (d := d) (w := w) (by omega) (by omega) (by omega) ?_
  show WP _ _ 14 _ [.int (xb (mwn G (uF S p (nI d)) p d w))] _ _
  refine xb_if_eq (mwn G (uF S p (nI d)) p d w) 45 dX6_tryWord_14 (by decide) rfl (fun h14 => ?_) (fun h14 => ?_)
  · skip
    refine xi_vret dX6_tryWord_45 rfl ?_
    have e : mtry G S p d w = (uF S p (nI d)) := by
      unfold mtry
      split
      · rfl
      · exact if_neg (by have := h14; intro q; rw [show mwn G (uF S p (nI d)) p d w = mwn G S p d w from rfl, q] at this; cases this)
    rw [e] at h
    exact h M1 hF1 hS1
  · skip
    refine xi_aload_n dX6_tryWord_17 rfl ?_
    refine xi_getR dX6_tryWord_18 fgX6_36 (so hr) rfl ?_
    refine xi_aload_n dX6_tryWord_21 rfl ?_
    refine xi_getR dX6_tryWord_22 fgX6_39 (so hr) rfl ?_
    refine xi_getR dX6_tryWord_25 fgX6_81 cc1 rfl ?_
    refine xi_aload_n dX6_tryWord_28 rfl ?_
    refine xi_getR dX6_tryWord_29 fgX6_39 (so hr) rfl ?_
    refine xi_aload_n dX6_tryWord_32 rfl ?_
    refine xi_getR dX6_tryWord_33 fgX6_9 (so hr) rfl ?_
    refine xi_iload_n dX6_tryWord_36 rfl ?_
    refine xe_iald (v := nI (mpos S p)) p dX6_tryWord_37 (sa1 hr) (by decide) rfl (by omega) ((csC hS1 (by omega)).trans hmp.1) ?_
    refine xat 38 rfl ?_
    refine xi_iload_n dX6_tryWord_38 rfl ?_
    refine xi_callV [.int (nI (mpos S p)), .int (nI d)] [.ref 3, .ref (r + 9)] dX6_tryWord_39 zX1_nextTo mlX6_146 cc1 rfl rfl rfl rfl rfl (Nat.le_of_ble_eq_true rfl) (Nat.le_of_ble_eq_true rfl) ⟨by decide, by decide⟩ ?_
    refine g_next hW hG1 (k := mpos S p) (d := d) (by omega) (by omega) ?_
    show WP _ _ 42 _ [.int (xo (mnext G (mpos S p) d)), .ref 3, .ref (r + 9)] _ _
    generalize eo39 : mnext G (mpos S p) d = o39
    obtain ⟨k, rfl⟩ : ∃ k, o39 = some k := by
      cases o39 with
      | none => rw [mwn, show mnext G (mpos (uF S p (nI d)) p) d = none from eo39] at h14; cases h14
      | some k => exact ⟨k, rfl⟩
    show WP _ _ 42 [some (.ref r), some (.int (nI p)), some (.int (nI d)), some (.int (nI w))] [.int (nI k), .ref 3, .ref (r + 9)] _ _
    have hk := mnext_lt hW hmp.2 eo39
    have hm2 : gmap G k = 2 := by
      rw [mwn, show mnext G (mpos (uF S p (nI d)) p) d = some k from eo39] at h14
      simp [mshut] at h14
      exact h14.1.1
    have q2 := wlink k (by omega) (by omega)
    refine xe_iald (v := nI (glink G k)) k dX6_tryWord_42 cc3 (by decide) rfl (by omega) (cg_link hG1 (by omega) (by omega)) ?_
    refine xi_iconst (v := 1) dX6_tryWord_43 rfl ?_
    refine xe_iast (glink G k) dX6_tryWord_44 (sa9 hr) (by decide) rfl (by omega) ?_
    generalize eM3 : (xa M1 (r + 9) (upd (M1.2.1 (r + 9)) (glink G k) 1)) = M3
    have hS3 : CS G (uO (uF S p (nI d)) (glink G k) 1) M3 r := by rw [← eM3]; exact csuO hS1 (glink G k) 1
    have hF3 : Fr r M1 M3 := by rw [← eM3]; exact Fr.xa (by decide) (by decide)
    have hG3 : CG G M3 := CG.fr hG1 hr hF3
    have hw3 : wS G (uO (uF S p (nI d)) (glink G k) 1) := (wS_uO hw1)
    refine xi_vret dX6_tryWord_45 rfl ?_
    have e : mtry G S p d w = (uO (uF S p (nI d)) (glink G k) 1) := by
      unfold mtry
      rw [eo39]
      exact if_pos h14
    rw [e] at h
    exact h M3 (hF1.tr hF3) hS3

set_option maxHeartbeats 4000000 in
set_option maxRecDepth 100000 in
theorem l_pick {G : xG} {r : Nat} {Q : Option Value → xM → Prop} (hW : wG G) (hr : isSt r) {p : Nat} (hp : p < gP G) : ∀ (f n : Nat) (S : xS) (M : xM), n + f = gT G → CG G M → CS G S M r → wS G S → (∀ M2, Fr r M M2 → CS G (mpkL G p n f S) M2 r → Q none M2) → WP shC mX6_pickUp 2 [some (.ref r), some (.int (nI p)), some (.int (nI n))] [] M Q := by
  obtain ⟨b1, b2, b3, b4, b5, b6, b7, b8, b9, wmap, wlink, wk0, wk1, b10, b11, wword⟩ := id hW
  intro f
  induction f with
  | zero =>
    intro n S M hf hG hS hw h
    refine xi_iload_n dX6_pickUp_2 rfl ?_
    refine xi_aload_n dX6_pickUp_3 rfl ?_
    refine xi_getR dX6_pickUp_4 fgX6_39 (so hr) rfl ?_
    refine xe_getI (v := nI (gT G)) dX6_pickUp_7 fgX6_75 cc1 rfl (cg_T hG) ?_
    refine xn_icmp_ge n (gT G) 78 dX6_pickUp_10 (by decide) rfl rfl (by omega) (by omega) (fun h10 => ?_) (fun h10 => ?_)
    · skip
      refine xi_vret dX6_pickUp_78 rfl ?_
      exact h M Fr.rf hS
    · omega
  | succ f ih =>
    intro n S M hf hG hS hw h
    refine xi_iload_n dX6_pickUp_2 rfl ?_
    refine xi_aload_n dX6_pickUp_3 rfl ?_
    refine xi_getR dX6_pickUp_4 fgX6_39 (so hr) rfl ?_
    refine xe_getI (v := nI (gT G)) dX6_pickUp_7 fgX6_75 cc1 rfl (cg_T hG) ?_
    refine xn_icmp_ge n (gT G) 78 dX6_pickUp_10 (by decide) rfl rfl (by omega) (by omega) (fun h10 => ?_) (fun h10 => ?_)
    · omega
    · skip
      refine xi_aload_n dX6_pickUp_13 rfl ?_
      refine xi_getR dX6_pickUp_14 fgX6_27 (so hr) rfl ?_
      refine xi_iload_n dX6_pickUp_17 rfl ?_
      obtain ⟨o1, ho1⟩ : ∃ o, o = sH S p := ⟨_, rfl⟩
      refine xe_iald (v := xo o1) p dX6_pickUp_18 (sa6 hr) (by decide) rfl (by omega) (by rw [ho1]; exact csH hS (by omega)) ?_
      refine xo_if_ge o1 78 dX6_pickUp_19 (by decide) rfl (fun j q => by have := hw.2.2.2.2 p hp j (ho1.symm.trans q); omega) (fun j h19 => ?_) (fun h19 => ?_)
      · subst h19
        refine xi_vret dX6_pickUp_78 rfl ?_
        have e : mpkL G p n (f + 1) S = S := by rw [mpkL, ← ho1]
        exact h M Fr.rf (by rw [e]; exact hS)
      · subst h19
        refine xi_aload_n dX6_pickUp_22 rfl ?_
        refine xi_getR dX6_pickUp_23 fgX6_39 (so hr) rfl ?_
        refine xi_getR dX6_pickUp_26 fgX6_72 cc1 rfl ?_
        refine xi_iload_n dX6_pickUp_29 rfl ?_
        have q2 : gkind G n ≤ 7 := hW.kind (by omega)
        refine xe_iald (v := nI (gkind G n)) n dX6_pickUp_30 cc8 (by decide) rfl (by omega) (cg_kind hG (by omega)) ?_
        refine xi_iconst (v := 5) dX6_pickUp_31 rfl ?_
        refine xn_icmp_lt (gkind G n) 5 72 dX6_pickUp_32 (by decide) rfl rfl (by omega) (by omega) (fun h32 => ?_) (fun h32 => ?_)
        · skip
          refine xi_iinc (v := nI (n + 1)) (lv' := [some (.ref r), some (.int (nI p)), some (.int (nI (n + 1)))]) dX6_pickUp_72 rfl (xinc n) (by decide) rfl ?_
          refine xi_goto 2 dX6_pickUp_75 (by decide) ?_
          have e : mpkL G p n (f + 1) S = mpkL G p (n + 1) f S := by
            rw [mpkL, ← ho1]
            exact congrArg (mpkL G p (n + 1) f) (if_neg (fun q => by omega))
          exact ih (n + 1) S M (by omega) hG hS hw (fun M9 hF9 hS9 => h M9 (Fr.rf.tr hF9) (by rw [e]; exact hS9))
        · skip
          refine xi_aload_n dX6_pickUp_35 rfl ?_
          refine xi_getR dX6_pickUp_36 fgX6_9 (so hr) rfl ?_
          refine xi_iload_n dX6_pickUp_39 rfl ?_
          refine xe_iald (v := sC S n) n dX6_pickUp_40 (sa1 hr) (by decide) rfl (by omega) (csC hS (by omega)) ?_
          refine xi_aload_n dX6_pickUp_41 rfl ?_
          refine xi_getR dX6_pickUp_42 fgX6_9 (so hr) rfl ?_
          refine xi_iload_n dX6_pickUp_45 rfl ?_
          refine xe_iald (v := sC S p) p dX6_pickUp_46 (sa1 hr) (by decide) rfl (by omega) (csC hS (by omega)) ?_
          refine xi_icmp_ne 72 dX6_pickUp_47 (by decide) (fun h47 => ?_) (fun h47 => ?_)
          · skip
            refine xi_iinc (v := nI (n + 1)) (lv' := [some (.ref r), some (.int (nI p)), some (.int (nI (n + 1)))]) dX6_pickUp_72 rfl (xinc n) (by decide) rfl ?_
            refine xi_goto 2 dX6_pickUp_75 (by decide) ?_
            have e : mpkL G p n (f + 1) S = mpkL G p (n + 1) f S := by
              rw [mpkL, ← ho1]
              exact congrArg (mpkL G p (n + 1) f) (if_neg (fun q => h47 q.2))
            exact ih (n + 1) S M (by omega) hG hS hw (fun M9 hF9 hS9 => h M9 (Fr.rf.tr hF9) (by rw [e]; exact hS9))
          · skip
            refine xi_aload_n dX6_pickUp_50 rfl ?_
            refine xi_getR dX6_pickUp_51 fgX6_27 (so hr) rfl ?_
            refine xi_iload_n dX6_pickUp_54 rfl ?_
            refine xi_iload_n dX6_pickUp_55 rfl ?_
            refine xe_iast p dX6_pickUp_56 (sa6 hr) (by decide) rfl (by omega) ?_
            generalize eM5 : (xa M (r + 6) (upd (M.2.1 (r + 6)) p (nI n))) = M5
            have hS5 : CS G (uH S p (some n)) M5 r := by rw [← eM5]; exact csuH hS p (some n)
            have hF5 : Fr r M M5 := by rw [← eM5]; exact Fr.xa (by decide) (by decide)
            have hG5 : CG G M5 := CG.fr hG hr hF5
            have hw5 : wS G (uH S p (some n)) := (wS_uH hw (fun j q => by cases q; exact ⟨by omega, by omega⟩))
            refine xi_aload_n dX6_pickUp_57 rfl ?_
            refine xi_getR dX6_pickUp_58 fgX6_18 (so hr) rfl ?_
            refine xi_iload_n dX6_pickUp_61 rfl ?_
            refine xi_iload_n dX6_pickUp_62 rfl ?_
            refine xe_iast n dX6_pickUp_63 (sa3 hr) (by decide) rfl (by omega) ?_
            generalize eM6 : (xa M5 (r + 3) (upd (M5.2.1 (r + 3)) n (nI p))) = M6
            have hS6 : CS G (uB (uH S p (some n)) n (some p)) M6 r := by rw [← eM6]; exact csuB hS5 n (some p)
            have hF6 : Fr r M5 M6 := by rw [← eM6]; exact Fr.xa (by decide) (by decide)
            have hG6 : CG G M6 := CG.fr hG5 hr hF6
            have hw6 : wS G (uB (uH S p (some n)) n (some p)) := (wS_uB hw5)
            refine xi_aload_n dX6_pickUp_64 rfl ?_
            refine xat 65 rfl ?_
            refine xi_getR dX6_pickUp_65 fgX6_9 (so hr) rfl ?_
            refine xi_iload_n dX6_pickUp_68 rfl ?_
            refine xi_bipush (v := (-2)) dX6_pickUp_69 (by decide) ?_
            refine xe_iast n dX6_pickUp_71 (sa1 hr) (by decide) rfl (by omega) ?_
            generalize eM7 : (xa M6 (r + 1) (upd (M6.2.1 (r + 1)) n (-2))) = M7
            have hS7 : CS G (uC (uB (uH S p (some n)) n (some p)) n (-2)) M7 r := by rw [← eM7]; exact csuC hS6 n (-2)
            have hF7 : Fr r M6 M7 := by rw [← eM7]; exact Fr.xa (by decide) (by decide)
            have hG7 : CG G M7 := CG.fr hG6 hr hF7
            have hw7 : wS G (uC (uB (uH S p (some n)) n (some p)) n (-2)) := (wS_uC_it hw6 (by omega))
            refine xi_iinc (v := nI (n + 1)) (lv' := [some (.ref r), some (.int (nI p)), some (.int (nI (n + 1)))]) dX6_pickUp_72 rfl (xinc n) (by decide) rfl ?_
            refine xi_goto 2 dX6_pickUp_75 (by decide) ?_
            have e : mpkL G p n (f + 1) S = mpkL G p (n + 1) f (uC (uB (uH S p (some n)) n (some p)) n (-2)) := by
              rw [mpkL, ← ho1]
              exact congrArg (mpkL G p (n + 1) f) (if_pos ⟨h32, h47⟩)
            exact ih (n + 1) (uC (uB (uH S p (some n)) n (some p)) n (-2)) M7 (by omega) hG7 hS7 hw7 (fun M9 hF9 hS9 => h M9 (((hF5.tr hF6).tr hF7).tr hF9) (by rw [e]; exact hS9))

set_option maxHeartbeats 4000000 in
set_option maxRecDepth 100000 in
theorem s_pick {G : xG} {S : xS} {M : xM} {r : Nat} {Q : Option Value → xM → Prop} (hW : wG G) (hG : CG G M) (hr : isSt r) (hS : CS G S M r) (hw : wS G S) {p : Nat} (hp : p < gP G) (h : ∀ M2, Fr r M M2 → CS G (mpk G S p) M2 r → Q none M2) : WP shC mX6_pickUp 0 [some (.ref r), some (.int (nI p)), none] [] M Q := by
  obtain ⟨b1, b2, b3, b4, b5, b6, b7, b8, b9, wmap, wlink, wk0, wk1, b10, b11, wword⟩ := id hW
  refine xi_iconst (v := 0) dX6_pickUp_0 rfl ?_
  refine xi_istore_n (lv' := [some (.ref r), some (.int (nI p)), some (.int 0)]) dX6_pickUp_1 (by decide) rfl ?_
  exact l_pick hW hr hp (gT G) 0 S M (by omega) hG hS hw h

