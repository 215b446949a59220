set_option maxHeartbeats 4000000 in
set_option maxRecDepth 100000 in
theorem j_fillIL {sh : List xSh} {a n : Nat} {g : Nat → Option Nat} {Q : Option Value → xM → Prop} (ha : sh[a]? = some (.inr (0, n, g))) (hn : n < 2 ^ 31) {v : Int32} : ∀ (f i : Nat) (M : xM), i + f = n → (∀ j, j < i → M.2.1 a j = v) → (∀ M2, (M2.1 = M.1 ∧ M2.2.2 = M.2.2 ∧ (∀ b, ¬ b = a → M2.2.1 b = M.2.1 b)) → (∀ j, j < n → M2.2.1 a j = v) → Q none M2) → WP sh mJ7_fill_53178 5 [some (.ref a), some (.int v), some (.int (nI i)), some (.int (nI n))] [] M Q := by
  intro f
  induction f with
  | zero =>
    intro i M hf hi h
    refine xi_iload_n dJ7_fill_53178_5 rfl ?_
    refine xi_iload_n dJ7_fill_53178_6 rfl ?_
    refine xn_icmp_ge i n 20 dJ7_fill_53178_7 (by decide) rfl rfl (by omega) (by omega) (fun h7 => ?_) (fun z => absurd z (by omega))
    refine xi_vret dJ7_fill_53178_20 rfl ?_
    exact h M ⟨rfl, rfl, fun _ _ => rfl⟩ (fun j hj => hi j (by omega))
  | succ f ih =>
    intro i M hf hi h
    refine xi_iload_n dJ7_fill_53178_5 rfl ?_
    refine xi_iload_n dJ7_fill_53178_6 rfl ?_
    refine xn_icmp_ge i n 20 dJ7_fill_53178_7 (by decide) rfl rfl (by omega) (by omega) (fun z => absurd z (by omega)) (fun h7 => ?_)
    refine xi_aload_n dJ7_fill_53178_10 rfl ?_
    refine xi_iload_n dJ7_fill_53178_11 rfl ?_
    refine xi_iload_n dJ7_fill_53178_12 rfl ?_
    refine xe_iast i dJ7_fill_53178_13 ha hn rfl (by omega) ?_
    generalize eM1 : (xa M a (upd (M.2.1 a) i v)) = M1
    have F1 : M1.1 = M.1 ∧ M1.2.2 = M.2.2 ∧ ∀ b, ¬ b = a → M1.2.1 b = M.2.1 b := by rw [← eM1]; exact ⟨rfl, rfl, fun b hb => xa_n hb⟩
    have hi1 : ∀ j, j < i + 1 → M1.2.1 a j = v := by
      intro j hj
      rw [← eM1]
      by_cases e : j = i
      · subst e; rw [xa_s, upd_s]
      · rw [xa_s, upd_n e]; exact hi j (by omega)
    refine xi_iinc (v := nI (i + 1)) (lv' := [some (.ref a), some (.int v), some (.int (nI (i + 1))), some (.int (nI n))]) dJ7_fill_53178_14 rfl (xinc i) (by decide) rfl ?_
    refine xi_goto 5 dJ7_fill_53178_17 (by decide) ?_
    exact ih (i + 1) M1 (by omega) hi1 (fun M2 F2 z => h M2 ⟨F2.1.trans F1.1, F2.2.1.trans F1.2.1, fun b hb => (F2.2.2 b hb).trans (F1.2.2 b hb)⟩ z)

set_option maxHeartbeats 4000000 in
set_option maxRecDepth 100000 in
theorem j_fillI {sh : List xSh} {a n : Nat} {g : Nat → Option Nat} {Q : Option Value → xM → Prop} (ha : sh[a]? = some (.inr (0, n, g))) (hn : n < 2 ^ 31) {v : Int32} {M : xM} (h : (∀ M2, (M2.1 = M.1 ∧ M2.2.2 = M.2.2 ∧ (∀ b, ¬ b = a → M2.2.1 b = M.2.1 b)) → (∀ j, j < n → M2.2.1 a j = v) → Q none M2)) : WP sh mJ7_fill_53178 0 [some (.ref a), some (.int v), none, none] [] M Q := by
  refine xi_iconst (v := 0) dJ7_fill_53178_0 rfl ?_
  refine xi_istore_n (lv' := [some (.ref a), some (.int v), some (.int 0), none]) dJ7_fill_53178_1 (by decide) rfl ?_
  refine xi_aload_n dJ7_fill_53178_2 rfl ?_
  refine xi_alen0 (v := nI n) dJ7_fill_53178_3 ha rfl ?_
  refine xi_istore_n (lv' := [some (.ref a), some (.int v), some (.int 0), some (.int (nI n))]) dJ7_fill_53178_4 (by decide) rfl ?_
  exact j_fillIL ha hn n 0 M (by omega) (fun j hj => by omega) h

set_option maxHeartbeats 4000000 in
set_option maxRecDepth 100000 in
theorem j_fillBL {sh : List xSh} {a n : Nat} {g : Nat → Option Nat} {Q : Option Value → xM → Prop} (ha : sh[a]? = some (.inr (1, n, g))) (hn : n < 2 ^ 31) {v : Int32} (hv : vp_nar .byte v = v) : ∀ (f i : Nat) (M : xM), i + f = n → (∀ j, j < i → M.2.1 a j = v) → (∀ M2, (M2.1 = M.1 ∧ M2.2.2 = M.2.2 ∧ (∀ b, ¬ b = a → M2.2.1 b = M.2.1 b)) → (∀ j, j < n → M2.2.1 a j = v) → Q none M2) → WP sh mJ7_fill_031fb 5 [some (.ref a), some (.int v), some (.int (nI i)), some (.int (nI n))] [] M Q := by
  intro f
  induction f with
  | zero =>
    intro i M hf hi h
    refine xi_iload_n dJ7_fill_031fb_5 rfl ?_
    refine xi_iload_n dJ7_fill_031fb_6 rfl ?_
    refine xn_icmp_ge i n 20 dJ7_fill_031fb_7 (by decide) rfl rfl (by omega) (by omega) (fun h7 => ?_) (fun z => absurd z (by omega))
    refine xi_vret dJ7_fill_031fb_20 rfl ?_
    exact h M ⟨rfl, rfl, fun _ _ => rfl⟩ (fun j hj => hi j (by omega))
  | succ f ih =>
    intro i M hf hi h
    refine xi_iload_n dJ7_fill_031fb_5 rfl ?_
    refine xi_iload_n dJ7_fill_031fb_6 rfl ?_
    refine xn_icmp_ge i n 20 dJ7_fill_031fb_7 (by decide) rfl rfl (by omega) (by omega) (fun z => absurd z (by omega)) (fun h7 => ?_)
    refine xi_aload_n dJ7_fill_031fb_10 rfl ?_
    refine xi_iload_n dJ7_fill_031fb_11 rfl ?_
    refine xi_iload_n dJ7_fill_031fb_12 rfl ?_
    refine xe_bast (v := v) i dJ7_fill_031fb_13 ha hn rfl (by omega) hv ?_
    generalize eM1 : (xa M a (upd (M.2.1 a) i v)) = M1
    have F1 : M1.1 = M.1 ∧ M1.2.2 = M.2.2 ∧ ∀ b, ¬ b = a → M1.2.1 b = M.2.1 b := by rw [← eM1]; exact ⟨rfl, rfl, fun b hb => xa_n hb⟩
    have hi1 : ∀ j, j < i + 1 → M1.2.1 a j = v := by
      intro j hj
      rw [← eM1]
      by_cases e : j = i
      · subst e; rw [xa_s, upd_s]
      · rw [xa_s, upd_n e]; exact hi j (by omega)
    refine xi_iinc (v := nI (i + 1)) (lv' := [some (.ref a), some (.int v), some (.int (nI (i + 1))), some (.int (nI n))]) dJ7_fill_031fb_14 rfl (xinc i) (by decide) rfl ?_
    refine xi_goto 5 dJ7_fill_031fb_17 (by decide) ?_
    exact ih (i + 1) M1 (by omega) hi1 (fun M2 F2 z => h M2 ⟨F2.1.trans F1.1, F2.2.1.trans F1.2.1, fun b hb => (F2.2.2 b hb).trans (F1.2.2 b hb)⟩ z)

set_option maxHeartbeats 4000000 in
set_option maxRecDepth 100000 in
theorem j_fillB {sh : List xSh} {a n : Nat} {g : Nat → Option Nat} {Q : Option Value → xM → Prop} (ha : sh[a]? = some (.inr (1, n, g))) (hn : n < 2 ^ 31) {v : Int32} (hv : vp_nar .byte v = v) {M : xM} (h : (∀ M2, (M2.1 = M.1 ∧ M2.2.2 = M.2.2 ∧ (∀ b, ¬ b = a → M2.2.1 b = M.2.1 b)) → (∀ j, j < n → M2.2.1 a j = v) → Q none M2)) : WP sh mJ7_fill_031fb 0 [some (.ref a), some (.int v), none, none] [] M Q := by
  refine xi_iconst (v := 0) dJ7_fill_031fb_0 rfl ?_
  refine xi_istore_n (lv' := [some (.ref a), some (.int v), some (.int 0), none]) dJ7_fill_031fb_1 (by decide) rfl ?_
  refine xi_aload_n dJ7_fill_031fb_2 rfl ?_
  refine xi_alen1 (v := nI n) dJ7_fill_031fb_3 ha rfl ?_
  refine xi_istore_n (lv' := [some (.ref a), some (.int v), some (.int 0), some (.int (nI n))]) dJ7_fill_031fb_4 (by decide) rfl ?_
  exact j_fillBL ha hn hv n 0 M (by omega) (fun j hj => by omega) h

set_option maxHeartbeats 4000000 in
set_option maxRecDepth 100000 in
theorem j_fillJL {sh : List xSh} {a n : Nat} {g : Nat → Option Nat} {Q : Option Value → xM → Prop} (ha : sh[a]? = some (.inr (3, n, g))) (hn : n < 2 ^ 31) {v : Int64} : ∀ (f i : Nat) (M : xM), i + f = n → (∀ j, j < i → M.2.2 a j = v) → (∀ M2, (M2.1 = M.1 ∧ M2.2.1 = M.2.1 ∧ (∀ b, ¬ b = a → M2.2.2 b = M.2.2 b)) → (∀ j, j < n → M2.2.2 a j = v) → Q none M2) → WP sh mJ7_fill_d0a16 6 [some (.ref a), some (.long v), none, some (.int (nI i)), some (.int (nI n))] [] M Q := by
  intro f
  induction f with
  | zero =>
    intro i M hf hi h
    refine xi_iload_n dJ7_fill_d0a16_6 rfl ?_
    refine xi_iload dJ7_fill_d0a16_7 rfl ?_
    refine xn_icmp_ge i n 22 dJ7_fill_d0a16_9 (by decide) rfl rfl (by omega) (by omega) (fun h9 => ?_) (fun z => absurd z (by omega))
    refine xi_vret dJ7_fill_d0a16_22 rfl ?_
    exact h M ⟨rfl, rfl, fun _ _ => rfl⟩ (fun j hj => hi j (by omega))
  | succ f ih =>
    intro i M hf hi h
    refine xi_iload_n dJ7_fill_d0a16_6 rfl ?_
    refine xi_iload dJ7_fill_d0a16_7 rfl ?_
    refine xn_icmp_ge i n 22 dJ7_fill_d0a16_9 (by decide) rfl rfl (by omega) (by omega) (fun z => absurd z (by omega)) (fun h9 => ?_)
    refine xi_aload_n dJ7_fill_d0a16_12 rfl ?_
    refine xi_iload_n dJ7_fill_d0a16_13 rfl ?_
    refine xi_lload_n dJ7_fill_d0a16_14 rfl ?_
    refine xe_last i dJ7_fill_d0a16_15 ha hn rfl (by omega) ?_
    generalize eM1 : (xj M a (vp_updL (M.2.2 a) i v)) = M1
    have F1 : M1.1 = M.1 ∧ M1.2.1 = M.2.1 ∧ ∀ b, ¬ b = a → M1.2.2 b = M.2.2 b := by rw [← eM1]; exact ⟨rfl, rfl, fun b hb => xj_n hb⟩
    have hi1 : ∀ j, j < i + 1 → M1.2.2 a j = v := by
      intro j hj
      rw [← eM1]
      by_cases e : j = i
      · subst e; rw [xj_s, updL_s]
      · rw [xj_s, updL_n e]; exact hi j (by omega)
    refine xi_iinc (v := nI (i + 1)) (lv' := [some (.ref a), some (.long v), none, some (.int (nI (i + 1))), some (.int (nI n))]) dJ7_fill_d0a16_16 rfl (xinc i) (by decide) rfl ?_
    refine xi_goto 6 dJ7_fill_d0a16_19 (by decide) ?_
    exact ih (i + 1) M1 (by omega) hi1 (fun M2 F2 z => h M2 ⟨F2.1.trans F1.1, F2.2.1.trans F1.2.1, fun b hb => (F2.2.2 b hb).trans (F1.2.2 b hb)⟩ z)

set_option maxHeartbeats 4000000 in
set_option maxRecDepth 100000 in
theorem j_fillJ {sh : List xSh} {a n : Nat} {g : Nat → Option Nat} {Q : Option Value → xM → Prop} (ha : sh[a]? = some (.inr (3, n, g))) (hn : n < 2 ^ 31) {v : Int64} {M : xM} (h : (∀ M2, (M2.1 = M.1 ∧ M2.2.1 = M.2.1 ∧ (∀ b, ¬ b = a → M2.2.2 b = M.2.2 b)) → (∀ j, j < n → M2.2.2 a j = v) → Q none M2)) : WP sh mJ7_fill_d0a16 0 [some (.ref a), some (.long v), none, none, none] [] M Q := by
  refine xi_iconst (v := 0) dJ7_fill_d0a16_0 rfl ?_
  refine xi_istore_n (lv' := [some (.ref a), some (.long v), none, some (.int 0), none]) dJ7_fill_d0a16_1 (by decide) rfl ?_
  refine xi_aload_n dJ7_fill_d0a16_2 rfl ?_
  refine xi_alen3 (v := nI n) dJ7_fill_d0a16_3 ha rfl ?_
  refine xi_istore (lv' := [some (.ref a), some (.long v), none, some (.int 0), some (.int (nI n))]) dJ7_fill_d0a16_4 (by decide) rfl ?_
  exact j_fillJL ha hn n 0 M (by omega) (fun j hj => by omega) h

set_option maxHeartbeats 4000000 in
set_option maxRecDepth 100000 in
theorem t_holdRow {M : xM} {Q : Option Value → xM → Prop} {r s n : Nat} {q : xT} (hr : isTp r) (hq : CT q M r) (h : ∀ M2, (∀ a, (a < r ∨ r + 2 < a) → M2.1 a = M.1 a ∧ M2.2.1 a = M.2.1 a ∧ M2.2.2 a = M.2.2 a) → CT (mrow q s n) M2 r → Q none M2) : WP shC mX8_holdRow 0 [some (.ref r), some (.int (nI s)), some (.int (nI n))] [] M Q := by
  refine xi_aload_n dX8_holdRow_0 rfl ?_
  refine xi_iload_n dX8_holdRow_1 rfl ?_
  refine xi_put dX8_holdRow_2 fpX8_19 (tpo hr) rfl ?_
  refine xi_aload_n dX8_holdRow_5 rfl ?_
  refine xi_iload_n dX8_holdRow_6 rfl ?_
  refine xi_put dX8_holdRow_7 fpX8_23 (tpo hr) rfl ?_
  refine xi_aload_n dX8_holdRow_10 rfl ?_
  refine xi_getR dX8_holdRow_11 fgX8_9 (tpo hr) rfl ?_
  refine xi_lconst (v := 0) dX8_holdRow_14 rfl ?_
  refine xi_callS [.ref (r + 1), .long 0] [] dX8_holdRow_15 zJ7_fill_d0a16 mlX8_26 rfl rfl rfl (Nat.le_of_ble_eq_true rfl) (Nat.le_of_ble_eq_true rfl) ⟨by decide, by decide⟩ ?_
  refine j_fillJ (tpa hr) (by decide) (fun M2 F2 z => ?_)
  show WP _ _ 18 _ [] _ _
  refine xi_vret dX8_holdRow_18 rfl ?_
  refine h M2 (fun a ha => ⟨?_, ?_, ?_⟩) ⟨?_, ?_, ?_, z, ?_⟩
  · rw [F2.1, xf_o (by omega), xf_o (by omega)]
  · rw [F2.2.1]; rfl
  · by_cases e : a = r + 1
    · omega
    · rw [F2.2.2 a e]; rfl
  · rw [F2.1, xf_k (by decide), xf_s]; rfl
  · rw [F2.1, xf_s]; rfl
  · rw [F2.1, xf_k (by decide), xf_k (by decide)]; exact hq.2.2.1
  · rw [F2.2.1]; exact hq.2.2.2.2

theorem isTp.ge {r : Nat} (h : isTp r) : 43 ≤ r ∧ r ≤ 58 := by obtain ⟨j, hj, rfl⟩ := h; omega

theorem mtl_le {G : xG} {S : xS} {k : Nat} : ∀ (f n a : Nat), mtl G S k n f a ≤ a + 8 * f
  | 0, n, a => by simp [mtl]
  | f + 1, n, a => by
    rw [mtl]
    split
    · have := mtl_le (G := G) (S := S) (k := k) f (n + 1) (a + 8); omega
    · have := mtl_le (G := G) (S := S) (k := k) f (n + 1) a; omega
theorem mtell_lt {G : xG} {S : xS} {p k j : Nat} (hW : wG G) (hk : k < gN G) (h : mtell G S p k = some j) : j < 2 ^ 31 := by
  unfold mtell at h
  split at h
  · cases h
    have h1 := mtl_le (G := G) (S := S) (k := k) (gT G) 0 (mlook G S k)
    have h2 := mlook_le (S := S) hW hk
    have b8 : gT G ≤ 16 := hW.2.2.2.2.2.2.2.1
    omega
  · cases h

set_option maxHeartbeats 4000000 in
set_option maxRecDepth 100000 in
theorem tl_view {G : xG} {S : xS} {Q : Option Value → xM → Prop} {r z p : Nat} {q : xT} (hW : wG G) (hr : isTp r) (hz : isSt z) (hw : wS G S) (hp : p < gP G) : ∀ (f c : Nat) (M : xM), c + f = gN G → CG G M → CS G S M z → CT (5, gN G, mvc (mtell G S p) c, q.2.2.2.1, fun k => if k < c then xo (mtell G S p k) else q.2.2.2.2 k) M r → (∀ M2, (∀ a, (a < r ∨ r + 2 < a) → M2.1 a = M.1 a ∧ M2.2.1 a = M.2.1 a ∧ M2.2.2 a = M.2.2 a) → CT (mview G S p q) M2 r → Q none M2) → WP shC mX8_holdView 23 [some (.ref r), some (.ref z), some (.int (nI p)), some (.int (nI c))] [] M Q := by
  obtain ⟨b1, b2, b3, b4, b5, b6, b7, b8, b9, wmap, wlink, wk0, wk1, b10, b11, wword⟩ := id hW
  have rb := hr.ge
  have zb := hz.ge
  intro f
  induction f with
  | zero =>
    intro c M hf hG hS hI h
    refine xi_iload_n dX8_holdView_23 rfl ?_
    refine xi_aload_n dX8_holdView_24 rfl ?_
    refine xe_getI (v := nI (gN G)) dX8_holdView_25 fgX8_23 (tpo hr) rfl hI.2.1 ?_
    refine xn_icmp_ge c (gN G) 68 dX8_holdView_28 (by decide) rfl rfl (by omega) (by omega) (fun h28 => ?_) (fun z => absurd z (by omega))
    refine xi_vret dX8_holdView_68 rfl ?_
    obtain rfl : c = gN G := by omega
    exact h M (fun _ _ => ⟨rfl, rfl, rfl⟩) hI
  | succ f ih =>
    intro c M hf hG hS hI h
    have mb := mvc_le (f := mtell G S p) c
    refine xi_iload_n dX8_holdView_23 rfl ?_
    refine xi_aload_n dX8_holdView_24 rfl ?_
    refine xe_getI (v := nI (gN G)) dX8_holdView_25 fgX8_23 (tpo hr) rfl hI.2.1 ?_
    refine xn_icmp_ge c (gN G) 68 dX8_holdView_28 (by decide) rfl rfl (by omega) (by omega) (fun z => absurd z (by omega)) (fun h28 => ?_)
    refine xi_aload_n dX8_holdView_31 rfl ?_
    refine xi_getR dX8_holdView_32 fgX8_15 (tpo hr) rfl ?_
    refine xi_iload_n dX8_holdView_35 rfl ?_
    refine xi_aload_n dX8_holdView_36 rfl ?_
    refine xi_iload_n dX8_holdView_37 rfl ?_
    refine xi_iload_n dX8_holdView_38 rfl ?_
    refine xi_callV [.int (nI p), .int (nI c)] [.int (nI c), .ref (r + 2)] dX8_holdView_39 zX6_tellOf mlX8_46 (so hz) rfl rfl rfl rfl rfl (Nat.le_of_ble_eq_true rfl) (Nat.le_of_ble_eq_true rfl) ⟨by decide, by decide⟩ ?_
    refine s_tell hW hG hz hS hw (p := p) (k := c) (by omega) (by omega) ?_
    show WP _ _ 42 _ [.int (xo (mtell G S p c)), .int (nI c), .ref (r + 2)] _ _
    generalize eo39 : mtell G S p c = o39
    refine xe_iast c dX8_holdView_42 (tpb hr) (by decide) rfl (by omega) ?_
    generalize eM1 : (xa M (r + 2) (upd (M.2.1 (r + 2)) c (xo o39))) = M1
    have F1 : (∀ a, (a < r ∨ r + 2 < a) → M1.1 a = M.1 a ∧ M1.2.1 a = M.2.1 a ∧ M1.2.2 a = M.2.2 a) := fun a ha => by rw [← eM1]; exact ⟨rfl, xa_n (by omega), rfl⟩
    have G1 : CG G M1 := hG.sm (fun a q1 q2 => F1 a (by omega))
    have S1 : CS G S M1 z := hS.sm (fun a q1 q2 => F1 a (by omega))
    have T1 : ∀ k, k < 100 → M1.2.1 (r + 2) k = if k < c + 1 then xo (mtell G S p k) else q.2.2.2.2 k := by
      intro k hk
      rw [← eM1, xa_s]
      by_cases e : k = c
      · subst e; rw [upd_s, if_pos (by omega), eo39]
      · rw [upd_n e, hI.2.2.2.2 k hk]; dsimp only; split <;> split <;> first | rfl | omega
    have f0 : M1.1 = M.1 := by rw [← eM1]; rfl
    have f2 : M1.2.2 = M.2.2 := by rw [← eM1]; rfl
    refine xi_aload_n dX8_holdView_43 rfl ?_
    refine xi_getR dX8_holdView_44 fgX8_15 (tpo hr) rfl ?_
    refine xi_iload_n dX8_holdView_47 rfl ?_
    refine xe_iald (v := xo o39) c dX8_holdView_48 (tpb hr) (by decide) rfl (by omega) ((T1 c (by omega)).trans (by rw [if_pos (by omega), eo39])) ?_
    refine xo_if_lt o39 62 dX8_holdView_49 (by decide) rfl (fun j q => mtell_lt hW (by omega) (eo39.trans q)) (fun h49 => ?_) (fun k49 h49 => ?_)
    · subst h49
      refine xi_iinc (v := nI (c + 1)) (lv' := [some (.ref r), some (.ref z), some (.int (nI p)), some (.int (nI (c + 1)))]) dX8_holdView_62 rfl (xinc c) (by decide) rfl ?_
      refine xi_goto 23 dX8_holdView_65 (by decide) ?_
      have mv : mvc (mtell G S p) (c + 1) = mvc (mtell G S p) c := by rw [mvc, eo39]; rfl
      refine ih (c + 1) M1 (by omega) G1 S1 ⟨by rw [f0]; exact hI.1, by rw [f0]; exact hI.2.1, by rw [f0, mv]; exact hI.2.2.1, by rw [f2]; exact hI.2.2.2.1, T1⟩ (fun M2 F2 z2 => h M2 (fun a ha => ⟨(F2 a ha).1.trans (F1 a ha).1, (F2 a ha).2.1.trans (F1 a ha).2.1, (F2 a ha).2.2.trans (F1 a ha).2.2⟩) z2)
    · subst h49
      refine xi_aload_n dX8_holdView_52 rfl ?_
      refine xi_dup dX8_holdView_53 rfl ?_
      refine xe_getI (v := nI (mvc (mtell G S p) c)) dX8_holdView_54 fgX8_43 (tpo hr) rfl (by rw [f0]; exact hI.2.2.1) ?_
      refine xi_iconst (v := 1) dX8_holdView_57 rfl ?_
      refine xe_iadd dX8_holdView_58 (v := nI (mvc (mtell G S p) c + 1)) (nI_add (mvc (mtell G S p) c) 1) ?_
      refine xi_put dX8_holdView_59 fpX8_43 (tpo hr) rfl ?_
      refine xi_iinc (v := nI (c + 1)) (lv' := [some (.ref r), some (.ref z), some (.int (nI p)), some (.int (nI (c + 1)))]) dX8_holdView_62 rfl (xinc c) (by decide) rfl ?_
      refine xi_goto 23 dX8_holdView_65 (by decide) ?_
      have mv : mvc (mtell G S p) (c + 1) = mvc (mtell G S p) c + 1 := by rw [mvc, eo39]; rfl
      generalize eM2 : (xf M1 r 2 (nI (mvc (mtell G S p) c + 1))) = M2
      have f3 : M2.2 = M1.2 := by rw [← eM2]; rfl
      have F2 : (∀ a, (a < r ∨ r + 2 < a) → M2.1 a = M1.1 a ∧ M2.2.1 a = M1.2.1 a ∧ M2.2.2 a = M1.2.2 a) := fun a ha => by rw [← eM2]; exact ⟨xf_o (by omega), rfl, rfl⟩
      refine ih (c + 1) M2 (by omega) (G1.sm (fun a q1 q2 => F2 a (by omega))) (S1.sm (fun a q1 q2 => F2 a (by omega))) ⟨by rw [← eM2, xf_k (by decide), f0]; exact hI.1, by rw [← eM2, xf_k (by decide), f0]; exact hI.2.1, by rw [← eM2, xf_s, mv], by rw [f3, f2]; exact hI.2.2.2.1, by rw [f3]; exact T1⟩ (fun M3 F3 z2 => h M3 (fun a ha => ⟨(F3 a ha).1.trans ((F2 a ha).1.trans (F1 a ha).1), (F3 a ha).2.1.trans ((F2 a ha).2.1.trans (F1 a ha).2.1), (F3 a ha).2.2.trans ((F2 a ha).2.2.trans (F1 a ha).2.2)⟩) z2)

set_option maxHeartbeats 4000000 in
set_option maxRecDepth 100000 in
theorem t_view {G : xG} {S : xS} {Q : Option Value → xM → Prop} {r z p : Nat} {q : xT} (hW : wG G) (hr : isTp r) (hz : isSt z) (hw : wS G S) (hp : p < gP G) {M : xM} (hG : CG G M) (hS : CS G S M z) (hq : CT q M r) (h : (∀ M2, (∀ a, (a < r ∨ r + 2 < a) → M2.1 a = M.1 a ∧ M2.2.1 a = M.2.1 a ∧ M2.2.2 a = M.2.2 a) → CT (mview G S p q) M2 r → Q none M2)) : WP shC mX8_holdView 0 [some (.ref r), some (.ref z), some (.int (nI p)), none] [] M Q := by
  obtain ⟨b1, b2, b3, b4, b5, b6, b7, b8, b9, wmap, wlink, wk0, wk1, b10, b11, wword⟩ := id hW
  have rb := hr.ge
  have zb := hz.ge
  refine xi_aload_n dX8_holdView_0 rfl ?_
  refine xi_iconst (v := 5) dX8_holdView_1 rfl ?_
  refine xi_put dX8_holdView_2 fpX8_19 (tpo hr) rfl ?_
  refine xi_aload_n dX8_holdView_5 rfl ?_
  refine xi_aload_n dX8_holdView_6 rfl ?_
  refine xi_getR dX8_holdView_7 fgX8_32 (so hz) rfl ?_
  refine xe_getI (v := nI (gN G)) dX8_holdView_10 fgX8_38 cc1 rfl (by first | exact cg_N hG | (rw [xf_o (by omega)]; exact cg_N hG)) ?_
  refine xi_put dX8_holdView_13 fpX8_23 (tpo hr) rfl ?_
  refine xi_aload_n dX8_holdView_16 rfl ?_
  refine xi_iconst (v := 0) dX8_holdView_17 rfl ?_
  refine xi_put dX8_holdView_18 fpX8_43 (tpo hr) rfl ?_
  refine xat 21 rfl ?_
  refine xi_iconst (v := 0) dX8_holdView_21 rfl ?_
  refine xi_istore_n (lv' := [some (.ref r), some (.ref z), some (.int (nI p)), some (.int 0)]) dX8_holdView_22 (by decide) rfl ?_
  generalize eM1 : (xf (xf (xf M r 0 5) r 1 (nI (gN G))) r 2 0) = M1
  have F1 : (∀ a, (a < r ∨ r + 2 < a) → M1.1 a = M.1 a ∧ M1.2.1 a = M.2.1 a ∧ M1.2.2 a = M.2.2 a) := fun a ha => by rw [← eM1]; exact ⟨by rw [xf_o (by omega), xf_o (by omega), xf_o (by omega)], rfl, rfl⟩
  refine tl_view hW hr hz hw hp (gN G) 0 M1 (by omega) (hG.sm (fun a q1 q2 => F1 a (by omega))) (hS.sm (fun a q1 q2 => F1 a (by omega))) ⟨by rw [← eM1, xf_k (by decide), xf_k (by decide), xf_s]; rfl, by rw [← eM1, xf_k (by decide), xf_s], by rw [← eM1, xf_s]; rfl, by rw [← eM1]; exact hq.2.2.2.1, ?_⟩ (fun M2 F2 z2 => h M2 (fun a ha => ⟨(F2 a ha).1.trans (F1 a ha).1, (F2 a ha).2.1.trans (F1 a ha).2.1, (F2 a ha).2.2.trans (F1 a ha).2.2⟩) z2)
  intro i hi
  rw [← eM1]
  dsimp only
  rw [if_neg (by omega)]
  exact hq.2.2.2.2 i hi

