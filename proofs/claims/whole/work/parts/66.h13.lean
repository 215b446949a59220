set_option maxHeartbeats 4000000 in
set_option maxRecDepth 100000 in
theorem x_seesNow {Q : Option Value → xM → Prop} {M : xM} {G : xG} {S0 : xS} {now : Nat} {A : Nat → Nat} (hW : wG G) (hw0 : wS G S0) (wn : now ≤ 500) (hG : MG G M) (hNS : NS G (Zf G A S0) now M) (hno : M.1 0 10 = nI now) {p k : Nat} (hp : p < gP G) (hk : k < gN G) (h : Q (some (.int (xb (mspot G (Zf G A S0 now) p k)))) M) : WP shM mX10_seesNow 0 [some (.ref 0), some (.int (nI p)), some (.int (nI k)), none] [] M Q := by
  obtain ⟨s, es⟩ : ∃ s, s = 112 * now := ⟨_, rfl⟩
  obtain ⟨b1, b2, b3, b4, b5, b6, b7, b8, b9, wmap, wlink, wk0, wk1, b10, b11, wword⟩ := id hW
  have hs : s ≤ 56000 := by omega
  have hS : RM G (Zf G A S0 now) M s := by rw [es]; exact hNS.1 now (Nat.le_refl _)
  have hw : wS G (Zf G A S0 now) := wS_Zf hW hw0 now
  have hkp := wk0 p hp
  refine xi_bipush (v := 112) dX10_seesNow_0 (by decide) ?_
  refine xi_aload_n dX10_seesNow_2 rfl ?_
  refine xe_getI (v := nI now) dX10_seesNow_3 fgX10_110 mm0 rfl hno ?_
  refine xe_imul dX10_seesNow_6 (v := nI s) ((pk_mul 112 now).trans (congrArg nI es.symm)) ?_
  refine xi_istore_n (lv' := [some (.ref 0), some (.int (nI p)), some (.int (nI k)), some (.int (nI s))]) dX10_seesNow_7 (by decide) rfl ?_
  refine xi_aload_n dX10_seesNow_8 rfl ?_
  refine xi_iload_n dX10_seesNow_9 rfl ?_
  refine xi_iload_n dX10_seesNow_10 rfl ?_
  refine xi_callV [.int (nI s), .int (nI p)] [] dX10_seesNow_11 zX10_stands mlX10_161 mm0 rfl rfl rfl rfl rfl (Nat.le_of_ble_eq_true rfl) (Nat.le_of_ble_eq_true rfl) ⟨by decide, by decide⟩ ?_
  refine n_stands hW hG hs hS hw (n := p) (by omega) ?_
  show WP _ _ 14 _ [.int (xb (decide (0 < sL (Zf G A S0 now) p)))] _ _
  refine xb_if_eq (decide (0 < sL (Zf G A S0 now) p)) 31 dX10_seesNow_14 (by decide) rfl (fun h14 => ?_) (fun h14 => ?_)
  · skip
    refine xi_iconst (v := 0) dX10_seesNow_31 rfl ?_
    refine xi_zret (v := 0) dX10_seesNow_32 rfl (by decide) ?_
    rw [show mspot G (Zf G A S0 now) p k = false by unfold mspot; rw [h14]; rfl] at h
    exact h
  · have hl0 := of_decide_eq_true h14
    refine xi_aload_n dX10_seesNow_17 rfl ?_
    refine xi_iload_n dX10_seesNow_18 rfl ?_
    refine xi_iload_n dX10_seesNow_19 rfl ?_
    refine xi_iload_n dX10_seesNow_20 rfl ?_
    refine xi_callV [.int (nI s), .int (nI p), .int (nI k)] [] dX10_seesNow_21 zX10_thingSees mlX10_211 mm0 rfl rfl rfl rfl rfl (Nat.le_of_ble_eq_true rfl) (Nat.le_of_ble_eq_true rfl) ⟨by decide, by decide⟩ ?_
    refine n_tsees hW hG hs hS hw (n := p) (k := k) (by omega) (by omega) (by omega) ?_
    show WP _ _ 24 _ [.int (xb (msee G (Zf G A S0 now) (mpos (Zf G A S0 now) p) k (mrad G (Zf G A S0 now) p)))] _ _
    refine xb_if_eq (msee G (Zf G A S0 now) (mpos (Zf G A S0 now) p) k (mrad G (Zf G A S0 now) p)) 31 dX10_seesNow_24 (by decide) rfl (fun h24 => ?_) (fun h24 => ?_)
    · skip
      refine xi_iconst (v := 0) dX10_seesNow_31 rfl ?_
      refine xi_zret (v := 0) dX10_seesNow_32 rfl (by decide) ?_
      have hl := of_decide_eq_true h14
      rw [← mspot_r hp hl] at h
      rw [h24] at h
      exact h
    · skip
      refine xi_iconst (v := 1) dX10_seesNow_27 rfl ?_
      refine xi_goto 32 dX10_seesNow_28 (by decide) ?_
      refine xi_zret (v := 1) dX10_seesNow_32 rfl (by decide) ?_
      have hl := of_decide_eq_true h14
      rw [← mspot_r hp hl] at h
      rw [h24] at h
      exact h

set_option maxHeartbeats 4000000 in
set_option maxRecDepth 100000 in
theorem xl_told {Q : Option Value → xM → Prop} {M : xM} {G : xG} {S0 : xS} {now : Nat} {A : Nat → Nat} (hW : wG G) (hw0 : wS G S0) (wn : now ≤ 500) (hG : MG G M) (hNS : NS G (Zf G A S0) now M) (hno : M.1 0 10 = nI now) {s p k : Nat} (es : s = 112 * now) (hp : p < gP G) (hk : k < gN G) : ∀ (f n a : Nat), n + f = gT G → a ≤ n → Q (some (.int (nI (mlook G (Zf G A S0 now) k + mtl G (Zf G A S0 now) k n f (8 * a))))) M → WP shM mX10_toldOf 25 [some (.ref 0), some (.int (nI p)), some (.int (nI k)), some (.int (nI s)), some (.int (nI a)), some (.int (nI n))] [] M Q := by
  obtain ⟨b1, b2, b3, b4, b5, b6, b7, b8, b9, wmap, wlink, wk0, wk1, b10, b11, wword⟩ := id hW
  have hs : s ≤ 56000 := by omega
  have hS : RM G (Zf G A S0 now) M s := by rw [es]; exact hNS.1 now (Nat.le_refl _)
  have hw : wS G (Zf G A S0 now) := wS_Zf hW hw0 now
  have hlk : mlook G (Zf G A S0 now) k ≤ 4 := mlook_le hW hk
  intro f
  induction f with
  | zero =>
    intro n a hf ha h
    refine xi_iload dX10_toldOf_25 rfl ?_
    refine xi_aload_n dX10_toldOf_27 rfl ?_
    refine xe_getI (v := nI (gT G)) dX10_toldOf_28 fgX10_107 mm0 rfl (mg_T hG) ?_
    refine xn_icmp_ge n (gT G) 61 dX10_toldOf_31 (by decide) rfl rfl (by omega) (by omega) (fun h31 => ?_) (fun z => absurd z (by omega))
    refine xi_aload_n dX10_toldOf_61 rfl ?_
    refine xi_iload_n dX10_toldOf_62 rfl ?_
    refine xi_iload_n dX10_toldOf_63 rfl ?_
    refine xi_callV [.int (nI s), .int (nI k)] [] dX10_toldOf_64 zX10_mapTold mlX10_226 mm0 rfl rfl rfl rfl rfl (Nat.le_of_ble_eq_true rfl) (Nat.le_of_ble_eq_true rfl) ⟨by decide, by decide⟩ ?_
    refine n_mapTold hW hG hs hS (k := k) (by omega) ?_
    show WP _ _ 67 _ [.int (nI (mlook G (Zf G A S0 now) k))] _ _
    refine xi_bipush (v := 8) dX10_toldOf_67 (by decide) ?_
    refine xi_iload dX10_toldOf_69 rfl ?_
    refine xe_imul dX10_toldOf_71 (v := nI (8 * a)) (pk_mul 8 a) ?_
    refine xe_iadd dX10_toldOf_72 (v := nI (mlook G (Zf G A S0 now) k + 8 * a)) (nI_add _ _) ?_
    refine xi_iret (v := nI (mlook G (Zf G A S0 now) k + 8 * a)) dX10_toldOf_73 rfl ?_
    exact h
  | succ f ih =>
    intro n a hf ha h
    rw [mtl] at h
    refine xi_iload dX10_toldOf_25 rfl ?_
    refine xi_aload_n dX10_toldOf_27 rfl ?_
    refine xe_getI (v := nI (gT G)) dX10_toldOf_28 fgX10_107 mm0 rfl (mg_T hG) ?_
    refine xn_icmp_ge n (gT G) 61 dX10_toldOf_31 (by decide) rfl rfl (by omega) (by omega) (fun z => absurd z (by omega)) (fun h31 => ?_)
    refine xi_iload dX10_toldOf_34 rfl ?_
    refine xi_aload_n dX10_toldOf_36 rfl ?_
    refine xi_iload_n dX10_toldOf_37 rfl ?_
    refine xi_iload dX10_toldOf_38 rfl ?_
    refine xi_iload_n dX10_toldOf_40 rfl ?_
    refine xi_callV [.int (nI s), .int (nI n), .int (nI k)] [.int (nI a)] dX10_toldOf_41 zX10_isTold mlX10_229 mm0 rfl rfl rfl rfl rfl (Nat.le_of_ble_eq_true rfl) (Nat.le_of_ble_eq_true rfl) ⟨by decide, by decide⟩ ?_
    refine n_isTold hW hG hs hS hw (n := n) (k := k) (by omega) (by omega) ?_
    show WP _ _ 44 _ [.int (xb (decide (¬ gkind G n = 4) && mat G (Zf G A S0 now) n k)), .int (nI a)] _ _
    refine xb_if_eq (decide (¬ gkind G n = 4) && mat G (Zf G A S0 now) n k) 51 dX10_toldOf_44 (by decide) rfl (fun h44 => ?_) (fun h44 => ?_)
    · skip
      refine xi_iconst (v := 0) dX10_toldOf_51 rfl ?_
      refine xe_iadd dX10_toldOf_52 (v := nI (a + 0)) (nI_add a 0) ?_
      refine xi_istore (lv' := [some (.ref 0), some (.int (nI p)), some (.int (nI k)), some (.int (nI s)), some (.int (nI (a + 0))), some (.int (nI n))]) dX10_toldOf_53 (by decide) rfl ?_
      refine xi_iinc (v := nI (n + 1)) (lv' := [some (.ref 0), some (.int (nI p)), some (.int (nI k)), some (.int (nI s)), some (.int (nI (a + 0))), some (.int (nI (n + 1)))]) dX10_toldOf_55 rfl (xinc n) (by decide) rfl ?_
      refine xi_goto 25 dX10_toldOf_58 (by decide) ?_
      rw [if_neg (by simpa using h44)] at h
      exact ih (n + 1) (a) (by omega) (by omega) h
    · skip
      refine xi_iconst (v := 1) dX10_toldOf_47 rfl ?_
      refine xi_goto 52 dX10_toldOf_48 (by decide) ?_
      refine xe_iadd dX10_toldOf_52 (v := nI (a + 1)) (nI_add a 1) ?_
      refine xi_istore (lv' := [some (.ref 0), some (.int (nI p)), some (.int (nI k)), some (.int (nI s)), some (.int (nI (a + 1))), some (.int (nI n))]) dX10_toldOf_53 (by decide) rfl ?_
      refine xi_iinc (v := nI (n + 1)) (lv' := [some (.ref 0), some (.int (nI p)), some (.int (nI k)), some (.int (nI s)), some (.int (nI (a + 1))), some (.int (nI (n + 1)))]) dX10_toldOf_55 rfl (xinc n) (by decide) rfl ?_
      refine xi_goto 25 dX10_toldOf_58 (by decide) ?_
      rw [if_pos (by simpa using h44)] at h
      exact ih (n + 1) (a + 1) (by omega) (by omega) (by rw [show 8 * (a + 1) = 8 * a + 8 by omega]; exact h)

set_option maxHeartbeats 4000000 in
set_option maxRecDepth 100000 in
theorem x_told {Q : Option Value → xM → Prop} {M : xM} {G : xG} {S0 : xS} {now : Nat} {A : Nat → Nat} (hW : wG G) (hw0 : wS G S0) (wn : now ≤ 500) (hG : MG G M) (hNS : NS G (Zf G A S0) now M) (hno : M.1 0 10 = nI now) {p k : Nat} (hp : p < gP G) (hk : k < gN G) (h : Q (some (.int (xo (mtell G (Zf G A S0 now) p k)))) M) : WP shM mX10_toldOf 0 [some (.ref 0), some (.int (nI p)), some (.int (nI k)), none, none, none] [] M Q := by
  obtain ⟨s, es⟩ : ∃ s, s = 112 * now := ⟨_, rfl⟩
  obtain ⟨b1, b2, b3, b4, b5, b6, b7, b8, b9, wmap, wlink, wk0, wk1, b10, b11, wword⟩ := id hW
  have hs : s ≤ 56000 := by omega
  have hS : RM G (Zf G A S0 now) M s := by rw [es]; exact hNS.1 now (Nat.le_refl _)
  have hw : wS G (Zf G A S0 now) := wS_Zf hW hw0 now
  refine xi_aload_n dX10_toldOf_0 rfl ?_
  refine xi_iload_n dX10_toldOf_1 rfl ?_
  refine xi_iload_n dX10_toldOf_2 rfl ?_
  refine xi_callV [.int (nI p), .int (nI k)] [] dX10_toldOf_3 zX10_seesNow mlX10_275 mm0 rfl rfl rfl rfl rfl (Nat.le_of_ble_eq_true rfl) (Nat.le_of_ble_eq_true rfl) ⟨by decide, by decide⟩ ?_
  refine x_seesNow hW hw0 wn hG hNS hno (p := p) (k := k) (by omega) (by omega) ?_
  show WP _ _ 6 _ [.int (xb (mspot G (Zf G A S0 now) p k))] _ _
  refine xb_if_ne (mspot G (Zf G A S0 now) p k) 11 dX10_toldOf_6 (by decide) rfl (fun h6 => ?_) (fun h6 => ?_)
  · skip
    refine xi_bipush (v := 112) dX10_toldOf_11 (by decide) ?_
    refine xi_aload_n dX10_toldOf_13 rfl ?_
    refine xe_getI (v := nI now) dX10_toldOf_14 fgX10_110 mm0 rfl hno ?_
    refine xe_imul dX10_toldOf_17 (v := nI s) ((pk_mul 112 now).trans (congrArg nI es.symm)) ?_
    refine xi_istore_n (lv' := [some (.ref 0), some (.int (nI p)), some (.int (nI k)), some (.int (nI s)), none, none]) dX10_toldOf_18 (by decide) rfl ?_
    refine xi_iconst (v := 0) dX10_toldOf_19 rfl ?_
    refine xi_istore (lv' := [some (.ref 0), some (.int (nI p)), some (.int (nI k)), some (.int (nI s)), some (.int 0), none]) dX10_toldOf_20 (by decide) rfl ?_
    refine xi_iconst (v := 0) dX10_toldOf_22 rfl ?_
    refine xi_istore (lv' := [some (.ref 0), some (.int (nI p)), some (.int (nI k)), some (.int (nI s)), some (.int 0), some (.int 0)]) dX10_toldOf_23 (by decide) rfl ?_
    refine xl_told hW hw0 wn hG hNS hno es hp hk (gT G) 0 0 (by omega) (by omega) ?_
    rw [show mtell G (Zf G A S0 now) p k = some (mtl G (Zf G A S0 now) k 0 (gT G) (mlook G (Zf G A S0 now) k)) by unfold mtell; rw [if_pos h6]] at h
    rw [show mtl G (Zf G A S0 now) k 0 (gT G) (mlook G (Zf G A S0 now) k) = mlook G (Zf G A S0 now) k + mtl G (Zf G A S0 now) k 0 (gT G) (8 * 0) from mtl_add _ _ _ 0] at h
    exact h
  · skip
    refine xi_iconst (v := (-1)) dX10_toldOf_9 rfl ?_
    refine xi_iret (v := (-1)) dX10_toldOf_10 rfl ?_
    rw [show mtell G (Zf G A S0 now) p k = none by unfold mtell; rw [h6]; rfl] at h
    exact h

theorem tell_ge {o : Option Nat} {z : Option Nat} (e : z = o) (h : ¬ lg_cmp (xo o).toInt64 0 < 0) : z.isSome = true := by
  subst e
  cases z with
  | none => exact absurd (by decide) h
  | some k => rfl
theorem tell_lt {G : xG} {S : xS} {p k : Nat} {o : Option Nat} (hW : wG G) (hk : k < gN G) (e : mtell G S p k = o) (h : lg_cmp (xo o).toInt64 0 < 0) : ¬ (mtell G S p k).isSome = true := by
  rw [e]
  cases o with
  | none => simp
  | some j =>
    have hj := mtell_lt hW hk e
    have h2 := (lg_cmp_lt _ _).mp h
    rw [show (xo (some j)).toInt64 = nJ j from nJ_i2l hj, show (0 : Int64) = nJ 0 from rfl, nJ_lt (by omega) (by omega)] at h2
    omega

set_option maxHeartbeats 4000000 in
set_option maxRecDepth 100000 in
theorem xl_view {Q : Option Value → xM → Prop} {G : xG} {S0 : xS} {now : Nat} {A : Nat → Nat} {d p : Nat} (hW : wG G) (hw0 : wS G S0) (wn : now ≤ 500) (hd : d < 6) (hp : p < gP G) : ∀ (f c : Nat) (M : xM), c + f = gN G → MG G M → NS G (Zf G A S0) now M → M.1 0 10 = nI now → M.2.1 19 d = nI (mvc (mtell G (Zf G A S0 now) p) c) → (∀ j, j < c → M.2.2 21 (100 * d + j) = (xo (mtell G (Zf G A S0 now) p j)).toInt64) → (∀ M2, Ft d M M2 → M2.2.1 18 = M.2.1 18 → M2.2.1 20 = M.2.1 20 → M2.2.1 19 d = nI (mvc (mtell G (Zf G A S0 now) p) (gN G)) → (∀ j, j < gN G → M2.2.2 21 (100 * d + j) = (xo (mtell G (Zf G A S0 now) p j)).toInt64) → Q (some (.int (nI (mvc (mtell G (Zf G A S0 now) p) (gN G))))) M2) → WP shM mX10_view 48 [some (.ref 0), some (.int (nI d)), some (.int (nI p)), some (.int (nI c))] [] M Q := by
  obtain ⟨b1, b2, b3, b4, b5, b6, b7, b8, b9, wmap, wlink, wk0, wk1, b10, b11, wword⟩ := id hW
  intro f
  induction f with
  | zero =>
    intro c M hf hG hNS hno h19 h21 h
    obtain rfl : c = gN G := by omega
    refine xi_iload_n dX10_view_48 rfl ?_
    refine xi_aload_n dX10_view_49 rfl ?_
    refine xe_getI (v := nI (gw G)) dX10_view_50 fgX10_7 mm0 rfl (mg_w hG) ?_
    refine xi_aload_n dX10_view_53 rfl ?_
    refine xe_getI (v := nI (gh G)) dX10_view_54 fgX10_13 mm0 rfl (mg_h hG) ?_
    refine xe_imul dX10_view_57 (v := nI (gN G)) (pk_mul _ _) ?_
    refine xn_icmp_ge (gN G) (gN G) 115 dX10_view_58 (by decide) rfl rfl (by omega) (by omega) (fun h58 => ?_) (fun z => absurd z (by omega))
    refine xi_aload_n dX10_view_115 rfl ?_
    refine xi_getR dX10_view_116 fgX10_83 mm0 rfl ?_
    refine xi_iload_n dX10_view_119 rfl ?_
    refine xe_iald (v := nI (mvc (mtell G (Zf G A S0 now) p) (gN G))) d dX10_view_120 mm19 (by decide) rfl (by omega) h19 ?_
    refine xat 121 rfl ?_
    refine xi_iret (v := nI (mvc (mtell G (Zf G A S0 now) p) (gN G))) dX10_view_121 rfl ?_
    exact h M Ft.rf rfl rfl h19 h21
  | succ f ih =>
    intro c M hf hG hNS hno h19 h21 h
    have mb := mvc_le (f := mtell G (Zf G A S0 now) p) c
    refine xi_iload_n dX10_view_48 rfl ?_
    refine xi_aload_n dX10_view_49 rfl ?_
    refine xe_getI (v := nI (gw G)) dX10_view_50 fgX10_7 mm0 rfl (mg_w hG) ?_
    refine xi_aload_n dX10_view_53 rfl ?_
    refine xe_getI (v := nI (gh G)) dX10_view_54 fgX10_13 mm0 rfl (mg_h hG) ?_
    refine xe_imul dX10_view_57 (v := nI (gN G)) (pk_mul _ _) ?_
    refine xn_icmp_ge c (gN G) 115 dX10_view_58 (by decide) rfl rfl (by omega) (by omega) (fun z => absurd z (by omega)) (fun h58 => ?_)
    refine xi_aload_n dX10_view_61 rfl ?_
    refine xi_getR dX10_view_62 fgX10_89 mm0 rfl ?_
    refine xi_bipush (v := 100) dX10_view_65 (by decide) ?_
    refine xi_iload_n dX10_view_67 rfl ?_
    refine xat 68 rfl ?_
    refine xe_imul dX10_view_68 (v := nI (100 * d)) (pk_mul 100 d) ?_
    refine xi_iload_n dX10_view_69 rfl ?_
    refine xe_iadd dX10_view_70 (v := nI (100 * d + c)) (nI_add (100 * d) c) ?_
    refine xi_aload_n dX10_view_71 rfl ?_
    refine xi_iload_n dX10_view_72 rfl ?_
    refine xi_iload_n dX10_view_73 rfl ?_
    refine xi_callV [.int (nI p), .int (nI c)] [.int (nI (100 * d + c)), .ref 21] dX10_view_74 zX10_toldOf mlX10_278 mm0 rfl rfl rfl rfl rfl (Nat.le_of_ble_eq_true rfl) (Nat.le_of_ble_eq_true rfl) ⟨by decide, by decide⟩ ?_
    refine x_told hW hw0 wn hG hNS hno (p := p) (k := c) (by omega) (by omega) ?_
    show WP _ _ 77 _ [.int (xo (mtell G (Zf G A S0 now) p c)), .int (nI (100 * d + c)), .ref 21] _ _
    generalize eo74 : mtell G (Zf G A S0 now) p c = o74
    refine xi_i2l dX10_view_77 ?_
    refine xe_last (100 * d + c) dX10_view_78 mm21 (by decide) rfl (by omega) ?_
    generalize eM1 : (xj M 21 (vp_updL (M.2.2 21) (100 * d + c) ((xo o74).toInt64))) = M1
    have F1 : Ft d M M1 := by rw [← eM1]; exact Ft.xj (by omega) (by omega)
    have a1 : M1.2.1 = M.2.1 := by rw [← eM1]; rfl
    have hi1 : ∀ j, j < c + 1 → M1.2.2 21 (100 * d + j) = (xo (mtell G (Zf G A S0 now) p j)).toInt64 := by
      intro j hj
      rw [← eM1, xj_s]
      by_cases e : j = c
      · subst e; rw [updL_s, eo74]
      · rw [updL_n (by omega)]; exact h21 j (by omega)
    have g21 : M1.2.2 21 ((100 * d) + c) = (xo o74).toInt64 := (hi1 c (by omega)).trans (by rw [eo74])
    have g19 : M1.2.1 19 d = nI (mvc (mtell G (Zf G A S0 now) p) c) := by rw [a1]; exact h19
    refine xi_aload_n dX10_view_79 rfl ?_
    refine xi_getR dX10_view_80 fgX10_83 mm0 rfl ?_
    refine xi_iload_n dX10_view_83 rfl ?_
    refine xi_dup2 dX10_view_84 rfl rfl ?_
    refine xe_iald (v := nI (mvc (mtell G (Zf G A S0 now) p) c)) d dX10_view_85 mm19 (by decide) rfl (by omega) g19 ?_
    refine xi_aload_n dX10_view_86 rfl ?_
    refine xi_getR dX10_view_87 fgX10_89 mm0 rfl ?_
    refine xi_bipush (v := 100) dX10_view_90 (by decide) ?_
    refine xi_iload_n dX10_view_92 rfl ?_
    refine xat 93 rfl ?_
    refine xe_imul dX10_view_93 (v := nI (100 * d)) (pk_mul 100 d) ?_
    refine xi_iload_n dX10_view_94 rfl ?_
    refine xe_iadd dX10_view_95 (v := nI (100 * d + c)) (nI_add (100 * d) c) ?_
    refine xe_lald (v := (xo o74).toInt64) (100 * d + c) dX10_view_96 mm21 (by decide) rfl (by omega) g21 ?_
    refine xi_lconst (v := 0) dX10_view_97 rfl ?_
    refine xi_lcmp dX10_view_98 ?_
    refine xi_if_lt 106 dX10_view_99 (by decide) (fun h99 => ?_) (fun h99 => ?_)
    · skip
      refine xi_iconst (v := 0) dX10_view_106 rfl ?_
      refine xe_iadd dX10_view_107 (v := nI (mvc (mtell G (Zf G A S0 now) p) c + 0)) (nI_add _ _) ?_
      refine xe_iast d dX10_view_108 mm19 (by decide) rfl (by omega) ?_
      refine xi_iinc (v := nI (c + 1)) (lv' := [some (.ref 0), some (.int (nI d)), some (.int (nI p)), some (.int (nI (c + 1)))]) dX10_view_109 rfl (xinc c) (by decide) rfl ?_
      refine xi_goto 48 dX10_view_112 (by decide) ?_
      generalize eM2 : (xa M1 19 (upd (M1.2.1 19) d (nI (mvc (mtell G (Zf G A S0 now) p) c + 0)))) = M2
      have F2 : Ft d M1 M2 := by rw [← eM2]; exact Ft.xa (by omega) (by omega)
      have mv : mvc (mtell G (Zf G A S0 now) p) (c + 1) = mvc (mtell G (Zf G A S0 now) p) c + 0 := by rw [mvc]; first | rw [if_pos (tell_ge eo74 h99)] | rw [if_neg (tell_lt hW (by omega) eo74 h99)]
      have b2 : M2.2.2 = M1.2.2 := by rw [← eM2]; rfl
      have g19b : M2.2.1 19 d = nI (mvc (mtell G (Zf G A S0 now) p) (c + 1)) := by rw [mv, ← eM2, xa_s, upd_s]
      have n18 : M2.2.1 18 = M.2.1 18 := by rw [← eM2, xa_n (by decide), a1]
      have n20 : M2.2.1 20 = M.2.1 20 := by rw [← eM2, xa_n (by decide), a1]
      have F3 := F1.tr F2
      refine ih (c + 1) M2 (by omega) (hG.sm (fun k _ => by rw [F3.1]) (fun a ha => F3.2.1 a (by omega))) (hNS.sm hW (F3.2.1 5 (by omega))) (by rw [F3.1]; exact hno) g19b (by rw [b2]; exact hi1) (fun M4 F4 e18 e20 e19 e21 => h M4 (F3.tr F4) (e18.trans n18) (e20.trans n20) e19 e21)
    · skip
      refine xi_iconst (v := 1) dX10_view_102 rfl ?_
      refine xi_goto 107 dX10_view_103 (by decide) ?_
      refine xe_iadd dX10_view_107 (v := nI (mvc (mtell G (Zf G A S0 now) p) c + 1)) (nI_add _ _) ?_
      refine xe_iast d dX10_view_108 mm19 (by decide) rfl (by omega) ?_
      refine xi_iinc (v := nI (c + 1)) (lv' := [some (.ref 0), some (.int (nI d)), some (.int (nI p)), some (.int (nI (c + 1)))]) dX10_view_109 rfl (xinc c) (by decide) rfl ?_
      refine xi_goto 48 dX10_view_112 (by decide) ?_
      generalize eM2 : (xa M1 19 (upd (M1.2.1 19) d (nI (mvc (mtell G (Zf G A S0 now) p) c + 1)))) = M2
      have F2 : Ft d M1 M2 := by rw [← eM2]; exact Ft.xa (by omega) (by omega)
      have mv : mvc (mtell G (Zf G A S0 now) p) (c + 1) = mvc (mtell G (Zf G A S0 now) p) c + 1 := by rw [mvc]; first | rw [if_pos (tell_ge eo74 h99)] | rw [if_neg (tell_lt hW (by omega) eo74 h99)]
      have b2 : M2.2.2 = M1.2.2 := by rw [← eM2]; rfl
      have g19b : M2.2.1 19 d = nI (mvc (mtell G (Zf G A S0 now) p) (c + 1)) := by rw [mv, ← eM2, xa_s, upd_s]
      have n18 : M2.2.1 18 = M.2.1 18 := by rw [← eM2, xa_n (by decide), a1]
      have n20 : M2.2.1 20 = M.2.1 20 := by rw [← eM2, xa_n (by decide), a1]
      have F3 := F1.tr F2
      refine ih (c + 1) M2 (by omega) (hG.sm (fun k _ => by rw [F3.1]) (fun a ha => F3.2.1 a (by omega))) (hNS.sm hW (F3.2.1 5 (by omega))) (by rw [F3.1]; exact hno) g19b (by rw [b2]; exact hi1) (fun M4 F4 e18 e20 e19 e21 => h M4 (F3.tr F4) (e18.trans n18) (e20.trans n20) e19 e21)

set_option maxHeartbeats 4000000 in
set_option maxRecDepth 100000 in
theorem mo_view {X : xX} {M : xM} {Q : Option Value → xM → Prop} (hX : wX X) (hC : RepM X M) (x0 : Int32) (x1 : Int32) (h : ∀ M2, RepM (st_view X x0 x1).2 M2 → Q (some (.int (st_view X x0 x1).1)) M2) : WP shM mX10_view 0 [some (.ref 0), some (.int x0), some (.int x1), none] [] M Q := by
  obtain ⟨G, S0, now, late, risk, A, L, sq, nl, rf, hr, lg, w, tp⟩ := X
  obtain ⟨hW, hw0, wn, wl, wr, wA_, wsq, wnl, wmo, wtk, wwt, wtp, wO0, wB0⟩ := id hX
  obtain ⟨b1, b2, b3, b4, b5, b6, b7, b8, b9, wmap, wlink, wk0, wk1, b10, b11, wword⟩ := id hW
  have nb : nl ≤ 2000 := by rw [wnl]; exact mcnt_le 2000
  obtain ⟨hG, hNS, hNA, hNL, hNH, hNE, hNQ, hNW, hNT, hNM⟩ := id hC
  obtain ⟨hno, hla, hri, hnl, hrf, hhr⟩ := id hNM
  obtain ⟨s, es⟩ : ∃ s, s = 112 * now := ⟨_, rfl⟩
  have hs : s ≤ 56000 := by omega
  have hS : RM G (Zf G A S0 now) M s := by rw [es]; exact hNS.1 now (Nat.le_refl _)
  have hw : wS G (Zf G A S0 now) := wS_Zf hW hw0 now
  rcases xix_cases x0 (n := 6) (by omega) with ⟨ec0, hc0⟩ | ⟨k0, hk0, rfl, ec0⟩
  · skip
    refine xi_iload_n dX10_view_0 rfl ?_
    refine xi_callS [.int x0] [] dX10_view_1 zX10_isTape mlX10_290 rfl rfl rfl (Nat.le_of_ble_eq_true rfl) (Nat.le_of_ble_eq_true rfl) ⟨by decide, by decide⟩ ?_
    refine n_isTpF hc0 ?_
    show WP _ _ 4 _ [.int (xb false)] _ _
    refine xb_if_eq false 15 dX10_view_4 (by decide) rfl (fun _ => ?_) (fun z => absurd z (by decide))
    refine xi_iconst (v := (-1)) dX10_view_15 rfl ?_
    refine xi_iret (v := (-1)) dX10_view_16 rfl ?_
    have e : st_view (G, S0, now, late, risk, A, L, sq, nl, rf, hr, lg, w, tp) x0 x1 = (-1, (G, S0, now, late, risk, A, L, sq, nl, rf, hr, lg, w, tp)) := by simp only [st_view, ec0]
    rw [e] at h
    exact h M hC
  rcases xix_cases x1 (n := gP G) (by omega) with ⟨ec1, hc1⟩ | ⟨k1, hk1, rfl, ec1⟩
  · skip
    refine xi_iload_n dX10_view_0 rfl ?_
    refine xi_callS [.int (nI k0)] [] dX10_view_1 zX10_isTape mlX10_290 rfl rfl rfl (Nat.le_of_ble_eq_true rfl) (Nat.le_of_ble_eq_true rfl) ⟨by decide, by decide⟩ ?_
    refine n_isTpT (k := k0) (by omega) ?_
    show WP _ _ 4 _ [.int (xb true)] _ _
    refine xb_if_eq true 15 dX10_view_4 (by decide) rfl (fun z => absurd z (by decide)) (fun _ => ?_)
    refine xi_aload_n dX10_view_7 rfl ?_
    refine xi_iload_n dX10_view_8 rfl ?_
    refine xi_callV [.int x1] [] dX10_view_9 zX10_isPlayer mlX10_272 mm0 rfl rfl rfl rfl rfl (Nat.le_of_ble_eq_true rfl) (Nat.le_of_ble_eq_true rfl) ⟨by decide, by decide⟩ ?_
    refine n_isPF hW hG hc1 ?_
    show WP _ _ 12 _ [.int (xb false)] _ _
    refine xb_if_ne false 17 dX10_view_12 (by decide) rfl (fun z => absurd z (by decide)) (fun _ => ?_)
    refine xi_iconst (v := (-1)) dX10_view_15 rfl ?_
    refine xi_iret (v := (-1)) dX10_view_16 rfl ?_
    have e : st_view (G, S0, now, late, risk, A, L, sq, nl, rf, hr, lg, w, tp) (nI k0) x1 = (-1, (G, S0, now, late, risk, A, L, sq, nl, rf, hr, lg, w, tp)) := by simp only [st_view, ec0, ec1]
    rw [e] at h
    exact h M hC
  refine xi_iload_n dX10_view_0 rfl ?_
  refine xi_callS [.int (nI k0)] [] dX10_view_1 zX10_isTape mlX10_290 rfl rfl rfl (Nat.le_of_ble_eq_true rfl) (Nat.le_of_ble_eq_true rfl) ⟨by decide, by decide⟩ ?_
  refine n_isTpT (k := k0) (by omega) ?_
  show WP _ _ 4 _ [.int (xb true)] _ _
  refine xb_if_eq true 15 dX10_view_4 (by decide) rfl (fun z => absurd z (by decide)) (fun _ => ?_)
  refine xi_aload_n dX10_view_7 rfl ?_
  refine xi_iload_n dX10_view_8 rfl ?_
  refine xi_callV [.int (nI k1)] [] dX10_view_9 zX10_isPlayer mlX10_272 mm0 rfl rfl rfl rfl rfl (Nat.le_of_ble_eq_true rfl) (Nat.le_of_ble_eq_true rfl) ⟨by decide, by decide⟩ ?_
  refine n_isPT hW hG (k := k1) (by omega) ?_
  show WP _ _ 12 _ [.int (xb true)] _ _
  refine xb_if_ne true 17 dX10_view_12 (by decide) rfl (fun _ => ?_) (fun z => absurd z (by decide))
  refine xi_aload_n dX10_view_17 rfl ?_
  refine xi_getR dX10_view_18 fgX10_80 mm0 rfl ?_
  refine xi_iload_n dX10_view_21 rfl ?_
  refine xi_iconst (v := 5) dX10_view_22 rfl ?_
  refine xe_iast k0 dX10_view_23 mm18 (by decide) rfl (by omega) ?_
  refine xi_aload_n dX10_view_24 rfl ?_
  refine xi_getR dX10_view_25 fgX10_83 mm0 rfl ?_
  refine xi_iload_n dX10_view_28 rfl ?_
  refine xi_iconst (v := 0) dX10_view_29 rfl ?_
  refine xe_iast k0 dX10_view_30 mm19 (by decide) rfl (by omega) ?_
  refine xat 31 rfl ?_
  refine xi_aload_n dX10_view_31 rfl ?_
  refine xi_getR dX10_view_32 fgX10_86 mm0 rfl ?_
  refine xi_iload_n dX10_view_35 rfl ?_
  refine xi_aload_n dX10_view_36 rfl ?_
  refine xi_getI dX10_view_37 fgX10_7 mm0 rfl ?_
  refine xi_aload_n dX10_view_40 rfl ?_
  refine xi_getI dX10_view_41 fgX10_13 mm0 rfl ?_
  refine xe_imul dX10_view_44 (v := nI (gN G)) (show M.1 0 1 * M.1 0 2 = _ by rw [mg_w hG, mg_h hG]; exact pk_mul _ _) ?_
  refine xe_iast k0 dX10_view_45 mm20 (by decide) rfl (by omega) ?_
  refine xi_iconst (v := 0) dX10_view_46 rfl ?_
  refine xi_istore_n (lv' := [some (.ref 0), some (.int (nI k0)), some (.int (nI k1)), some (.int 0)]) dX10_view_47 (by decide) rfl ?_
  simp only [st_view, ec0, ec1] at h
  generalize eM1 : (xa (xa (xa M 18 (upd (M.2.1 18) k0 5)) 19 (upd ((xa M 18 (upd (M.2.1 18) k0 5)).2.1 19) k0 0)) 20 (upd ((xa (xa M 18 (upd (M.2.1 18) k0 5)) 19 (upd ((xa M 18 (upd (M.2.1 18) k0 5)).2.1 19) k0 0)).2.1 20) k0 (nI (gN G)))) = M1
  have F1 : Ft k0 M M1 := by rw [← eM1]; exact ((Ft.xa (by omega) (by omega)).tr (Ft.xa (by omega) (by omega))).tr (Ft.xa (by omega) (by omega))
  refine xl_view hW hw0 wn hk0 hk1 (gN G) 0 M1 (by omega) (hG.sm (fun k _ => by rw [F1.1]) (fun a ha => F1.2.1 a (by omega))) (hNS.sm hW (F1.2.1 5 (by omega))) (by rw [F1.1]; exact hno) (by rw [← eM1, xa_n (by decide), xa_s, upd_s]; rfl) (fun j hj => by omega) (fun M2 F2 e18 e20 e19 e21 => ?_)
  refine h M2 (RepM_tp hX hC hk0 (F1.tr F2) ⟨?_, fun q1 q2 => absurd q2 (show ¬ 5 ≤ 4 by decide), fun _ => ⟨e19, ?_, fun i hi => ?_⟩⟩)
  · rw [e18, ← eM1, xa_n (by decide), xa_n (by decide), xa_s, upd_s]; rfl
  · rw [e20, ← eM1, xa_s, upd_s]; rfl
  · rw [e21 i hi]
    show _ = (if i < gN G then _ else _ : Int32).toInt64
    rw [if_pos (show i < gN G from hi)]

def a_at (X : xX) (x y : Int32) : Nat × Int64 := match X with
  | (_, _, _, _, _, _, _, _, _, _, _, _, _, tp) => match xix x 6 with
    | none => (1, 0)
    | some d => if (tp d).1 = 0 ∨ (tp d).1 = 5 then (2, 0) else match xix y (tp d).2.1 with
      | none => (2, 0)
      | some i => (0, (tp d).2.2.2.1 i)

theorem RepM_thr {G : xG} {S0 : xS} {now late risk : Nat} {A : Nat → Nat} {L : Nat → Bool} {sq : Nat → Nat} {nl : Nat} {rf hr : Int32} {lg : xE2} {w : xw} {tp : Nat → xT} {M : xM} {v : Int32} (hC : RepM (G, S0, now, late, risk, A, L, sq, nl, rf, hr, lg, w, tp) M) : RepM (G, S0, now, late, risk, A, L, sq, nl, rf, hr, lg, w, tp) (xf M 0 0 v) := by
  obtain ⟨a, b, c, d, e, f, g, i, j, k0⟩ := hC
  exact RepM_mk a b c d e f g i j k0

set_option maxHeartbeats 4000000 in
set_option maxRecDepth 100000 in
theorem mo_at {X : xX} {M : xM} {Q : Option Value → xM → Prop} (hX : wX X) (hC : RepM X M) (x0 : Int32) (x1 : Int32) (h : ∀ M2, RepM X M2 → M2.1 0 0 = nI (a_at X x0 x1).1 → Q (some (.long (a_at X x0 x1).2)) M2) : WP shM mX10_at 0 [some (.ref 0), some (.int x0), some (.int x1)] [] M Q := by
  obtain ⟨G, S0, now, late, risk, A, L, sq, nl, rf, hr, lg, w, tp⟩ := X
  obtain ⟨hW, hw0, wn, wl, wr, wA_, wsq, wnl, wmo, wtk, wwt, wtp, wO0, wB0⟩ := id hX
  obtain ⟨b1, b2, b3, b4, b5, b6, b7, b8, b9, wmap, wlink, wk0, wk1, b10, b11, wword⟩ := id hW
  have nb : nl ≤ 2000 := by rw [wnl]; exact mcnt_le 2000
  obtain ⟨hG, hNS, hNA, hNL, hNH, hNE, hNQ, hNW, hNT, hNM⟩ := id hC
  obtain ⟨hno, hla, hri, hnl, hrf, hhr⟩ := id hNM
  obtain ⟨s, es⟩ : ∃ s, s = 112 * now := ⟨_, rfl⟩
  have hs : s ≤ 56000 := by omega
  have hS : RM G (Zf G A S0 now) M s := by rw [es]; exact hNS.1 now (Nat.le_refl _)
  have hw : wS G (Zf G A S0 now) := wS_Zf hW hw0 now
  have wtq : ∀ d, (tp d).1 ≤ 5 ∧ (tp d).2.1 ≤ 100 ∧ (1 ≤ (tp d).1 ∧ (tp d).1 ≤ 4 → (tp d).2.1 ≤ 80) := fun d => ⟨(wtp d).1, (wtp d).2.1, (wtp d).2.2.2⟩
  rcases xix_cases x0 (n := 6) (by omega) with ⟨ec0, hc0⟩ | ⟨k0, hk0, rfl, ec0⟩
  · skip
    refine xi_aload_n dX10_at_0 rfl ?_
    refine xi_iload_n dX10_at_1 rfl ?_
    refine xi_callS [.int x0] [.ref 0] dX10_at_2 zX10_isTape mlX10_290 rfl rfl rfl (Nat.le_of_ble_eq_true rfl) (Nat.le_of_ble_eq_true rfl) ⟨by decide, by decide⟩ ?_
    refine n_isTpF hc0 ?_
    show WP _ _ 5 _ [.int (xb false), .ref 0] _ _
    refine xb_if_ne false 12 dX10_at_5 (by decide) rfl (fun z => absurd z (by decide)) (fun _ => ?_)
    refine xi_iconst (v := 1) dX10_at_8 rfl ?_
    refine xi_goto 52 dX10_at_9 (by decide) ?_
    refine xi_put dX10_at_52 fpX10_98 mm0 rfl ?_
    refine xi_aload_n dX10_at_55 rfl ?_
    refine xe_getI (v := nI 1) dX10_at_56 fgX10_98 mm0 rfl xf_s ?_
    refine xn_if_le 1 66 dX10_at_59 (by decide) rfl (by omega) (fun h59 => ?_) (fun h59 => ?_)
    · omega
    · skip
      refine xi_lconst (v := 0) dX10_at_62 rfl ?_
      refine xi_goto 77 dX10_at_63 (by decide) ?_
      refine xi_lret (v := 0) dX10_at_77 rfl ?_
      have e : a_at (G, S0, now, late, risk, A, L, sq, nl, rf, hr, lg, w, tp) x0 x1 = (1, 0) := by simp only [a_at, ec0]
      rw [e] at h
      exact h _ (RepM_thr hC) xf_s
  have z0 := wtq k0
  rcases (show ((tp k0).1 = 0) ∨ ((tp k0).1 = 5) ∨ (1 ≤ (tp k0).1 ∧ (tp k0).1 ≤ 4) by omega) with hs1 | hs1 | hs1
  · skip
    rcases xix_cases x1 (n := (tp k0).2.1) (by omega) with ⟨ec1, hc1⟩ | ⟨k1, hk1, rfl, ec1⟩
    · skip
      refine xi_aload_n dX10_at_0 rfl ?_
      refine xi_iload_n dX10_at_1 rfl ?_
      refine xi_callS [.int (nI k0)] [.ref 0] dX10_at_2 zX10_isTape mlX10_290 rfl rfl rfl (Nat.le_of_ble_eq_true rfl) (Nat.le_of_ble_eq_true rfl) ⟨by decide, by decide⟩ ?_
      refine n_isTpT (k := k0) (by omega) ?_
      show WP _ _ 5 _ [.int (xb true), .ref 0] _ _
      refine xb_if_ne true 12 dX10_at_5 (by decide) rfl (fun _ => ?_) (fun z => absurd z (by decide))
      refine xi_aload_n dX10_at_12 rfl ?_
      refine xi_getR dX10_at_13 fgX10_80 mm0 rfl ?_
      refine xi_iload_n dX10_at_16 rfl ?_
      refine xe_iald (v := nI ((tp k0).1)) k0 dX10_at_17 mm18 (by decide) rfl (by omega) (hNT k0 (by omega)).1 ?_
      refine xn_if_eq ((tp k0).1) 47 dX10_at_18 (by decide) rfl (by omega) (fun h18 => ?_) (fun z => absurd z (by omega))
      refine xi_iconst (v := 2) dX10_at_47 rfl ?_
      refine xi_goto 52 dX10_at_48 (by decide) ?_
      refine xi_put dX10_at_52 fpX10_98 mm0 rfl ?_
      refine xi_aload_n dX10_at_55 rfl ?_
      refine xe_getI (v := nI 2) dX10_at_56 fgX10_98 mm0 rfl xf_s ?_
      refine xn_if_le 2 66 dX10_at_59 (by decide) rfl (by omega) (fun h59 => ?_) (fun h59 => ?_)
      · omega
      · skip
        refine xi_lconst (v := 0) dX10_at_62 rfl ?_
        refine xi_goto 77 dX10_at_63 (by decide) ?_
        refine xi_lret (v := 0) dX10_at_77 rfl ?_
        have e : a_at (G, S0, now, late, risk, A, L, sq, nl, rf, hr, lg, w, tp) (nI k0) x1 = (2, 0) := by simp only [a_at, ec0]; rw [if_pos (by omega)]
        rw [e] at h
        exact h _ (RepM_thr hC) xf_s
    refine xi_aload_n dX10_at_0 rfl ?_
    refine xi_iload_n dX10_at_1 rfl ?_
    refine xi_callS [.int (nI k0)] [.ref 0] dX10_at_2 zX10_isTape mlX10_290 rfl rfl rfl (Nat.le_of_ble_eq_true rfl) (Nat.le_of_ble_eq_true rfl) ⟨by decide, by decide⟩ ?_
    refine n_isTpT (k := k0) (by omega) ?_
    show WP _ _ 5 _ [.int (xb true), .ref 0] _ _
    refine xb_if_ne true 12 dX10_at_5 (by decide) rfl (fun _ => ?_) (fun z => absurd z (by decide))
    refine xi_aload_n dX10_at_12 rfl ?_
    refine xi_getR dX10_at_13 fgX10_80 mm0 rfl ?_
    refine xi_iload_n dX10_at_16 rfl ?_
    refine xe_iald (v := nI ((tp k0).1)) k0 dX10_at_17 mm18 (by decide) rfl (by omega) (hNT k0 (by omega)).1 ?_
    refine xn_if_eq ((tp k0).1) 47 dX10_at_18 (by decide) rfl (by omega) (fun h18 => ?_) (fun z => absurd z (by omega))
    refine xi_iconst (v := 2) dX10_at_47 rfl ?_
    refine xi_goto 52 dX10_at_48 (by decide) ?_
    refine xi_put dX10_at_52 fpX10_98 mm0 rfl ?_
    refine xi_aload_n dX10_at_55 rfl ?_
    refine xe_getI (v := nI 2) dX10_at_56 fgX10_98 mm0 rfl xf_s ?_
    refine xn_if_le 2 66 dX10_at_59 (by decide) rfl (by omega) (fun h59 => ?_) (fun h59 => ?_)
    · omega
    · skip
      refine xi_lconst (v := 0) dX10_at_62 rfl ?_
      refine xi_goto 77 dX10_at_63 (by decide) ?_
      refine xi_lret (v := 0) dX10_at_77 rfl ?_
      have e : a_at (G, S0, now, late, risk, A, L, sq, nl, rf, hr, lg, w, tp) (nI k0) (nI k1) = (2, 0) := by simp only [a_at, ec0]; rw [if_pos (by omega)]
      rw [e] at h
      exact h _ (RepM_thr hC) xf_s
  · skip
    rcases xix_cases x1 (n := (tp k0).2.1) (by omega) with ⟨ec1, hc1⟩ | ⟨k1, hk1, rfl, ec1⟩
    · skip
      refine xi_aload_n dX10_at_0 rfl ?_
      refine xi_iload_n dX10_at_1 rfl ?_
      refine xi_callS [.int (nI k0)] [.ref 0] dX10_at_2 zX10_isTape mlX10_290 rfl rfl rfl (Nat.le_of_ble_eq_true rfl) (Nat.le_of_ble_eq_true rfl) ⟨by decide, by decide⟩ ?_
      refine n_isTpT (k := k0) (by omega) ?_
      show WP _ _ 5 _ [.int (xb true), .ref 0] _ _
      refine xb_if_ne true 12 dX10_at_5 (by decide) rfl (fun _ => ?_) (fun z => absurd z (by decide))
      refine xi_aload_n dX10_at_12 rfl ?_
      refine xi_getR dX10_at_13 fgX10_80 mm0 rfl ?_
      refine xi_iload_n dX10_at_16 rfl ?_
      refine xe_iald (v := nI ((tp k0).1)) k0 dX10_at_17 mm18 (by decide) rfl (by omega) (hNT k0 (by omega)).1 ?_
      refine xn_if_eq ((tp k0).1) 47 dX10_at_18 (by decide) rfl (by omega) (fun z => absurd z (by omega)) (fun h18 => ?_)
      refine xi_aload_n dX10_at_21 rfl ?_
      refine xi_getR dX10_at_22 fgX10_80 mm0 rfl ?_
      refine xi_iload_n dX10_at_25 rfl ?_
      refine xe_iald (v := nI ((tp k0).1)) k0 dX10_at_26 mm18 (by decide) rfl (by omega) (hNT k0 (by omega)).1 ?_
      refine xi_iconst (v := 5) dX10_at_27 rfl ?_
      refine xat 28 rfl ?_
      refine xn_icmp_eq ((tp k0).1) 5 47 dX10_at_28 (by decide) rfl rfl (by omega) (by omega) (fun h28 => ?_) (fun z => absurd z (by omega))
      refine xi_iconst (v := 2) dX10_at_47 rfl ?_
      refine xi_goto 52 dX10_at_48 (by decide) ?_
      refine xi_put dX10_at_52 fpX10_98 mm0 rfl ?_
      refine xi_aload_n dX10_at_55 rfl ?_
      refine xe_getI (v := nI 2) dX10_at_56 fgX10_98 mm0 rfl xf_s ?_
      refine xn_if_le 2 66 dX10_at_59 (by decide) rfl (by omega) (fun h59 => ?_) (fun h59 => ?_)
      · omega
      · skip
        refine xi_lconst (v := 0) dX10_at_62 rfl ?_
        refine xi_goto 77 dX10_at_63 (by decide) ?_
        refine xi_lret (v := 0) dX10_at_77 rfl ?_
        have e : a_at (G, S0, now, late, risk, A, L, sq, nl, rf, hr, lg, w, tp) (nI k0) x1 = (2, 0) := by simp only [a_at, ec0]; rw [if_pos (by omega)]
        rw [e] at h
        exact h _ (RepM_thr hC) xf_s
    refine xi_aload_n dX10_at_0 rfl ?_
    refine xi_iload_n dX10_at_1 rfl ?_
    refine xi_callS [.int (nI k0)] [.ref 0] dX10_at_2 zX10_isTape mlX10_290 rfl rfl rfl (Nat.le_of_ble_eq_true rfl) (Nat.le_of_ble_eq_true rfl) ⟨by decide, by decide⟩ ?_
    refine n_isTpT (k := k0) (by omega) ?_
    show WP _ _ 5 _ [.int (xb true), .ref 0] _ _
    refine xb_if_ne true 12 dX10_at_5 (by decide) rfl (fun _ => ?_) (fun z => absurd z (by decide))
    refine xi_aload_n dX10_at_12 rfl ?_
    refine xi_getR dX10_at_13 fgX10_80 mm0 rfl ?_
    refine xi_iload_n dX10_at_16 rfl ?_
    refine xe_iald (v := nI ((tp k0).1)) k0 dX10_at_17 mm18 (by decide) rfl (by omega) (hNT k0 (by omega)).1 ?_
    refine xn_if_eq ((tp k0).1) 47 dX10_at_18 (by decide) rfl (by omega) (fun z => absurd z (by omega)) (fun h18 => ?_)
    refine xi_aload_n dX10_at_21 rfl ?_
    refine xi_getR dX10_at_22 fgX10_80 mm0 rfl ?_
    refine xi_iload_n dX10_at_25 rfl ?_
    refine xe_iald (v := nI ((tp k0).1)) k0 dX10_at_26 mm18 (by decide) rfl (by omega) (hNT k0 (by omega)).1 ?_
    refine xi_iconst (v := 5) dX10_at_27 rfl ?_
    refine xat 28 rfl ?_
    refine xn_icmp_eq ((tp k0).1) 5 47 dX10_at_28 (by decide) rfl rfl (by omega) (by omega) (fun h28 => ?_) (fun z => absurd z (by omega))
    refine xi_iconst (v := 2) dX10_at_47 rfl ?_
    refine xi_goto 52 dX10_at_48 (by decide) ?_
    refine xi_put dX10_at_52 fpX10_98 mm0 rfl ?_
    refine xi_aload_n dX10_at_55 rfl ?_
    refine xe_getI (v := nI 2) dX10_at_56 fgX10_98 mm0 rfl xf_s ?_
    refine xn_if_le 2 66 dX10_at_59 (by decide) rfl (by omega) (fun h59 => ?_) (fun h59 => ?_)
    · omega
    · skip
      refine xi_lconst (v := 0) dX10_at_62 rfl ?_
      refine xi_goto 77 dX10_at_63 (by decide) ?_
      refine xi_lret (v := 0) dX10_at_77 rfl ?_
      have e : a_at (G, S0, now, late, risk, A, L, sq, nl, rf, hr, lg, w, tp) (nI k0) (nI k1) = (2, 0) := by simp only [a_at, ec0]; rw [if_pos (by omega)]
      rw [e] at h
      exact h _ (RepM_thr hC) xf_s
  · skip
    rcases xix_cases x1 (n := (tp k0).2.1) (by omega) with ⟨ec1, hc1⟩ | ⟨k1, hk1, rfl, ec1⟩
    · skip
      refine xi_aload_n dX10_at_0 rfl ?_
      refine xi_iload_n dX10_at_1 rfl ?_
      refine xi_callS [.int (nI k0)] [.ref 0] dX10_at_2 zX10_isTape mlX10_290 rfl rfl rfl (Nat.le_of_ble_eq_true rfl) (Nat.le_of_ble_eq_true rfl) ⟨by decide, by decide⟩ ?_
      refine n_isTpT (k := k0) (by omega) ?_
      show WP _ _ 5 _ [.int (xb true), .ref 0] _ _
      refine xb_if_ne true 12 dX10_at_5 (by decide) rfl (fun _ => ?_) (fun z => absurd z (by decide))
      refine xi_aload_n dX10_at_12 rfl ?_
      refine xi_getR dX10_at_13 fgX10_80 mm0 rfl ?_
      refine xi_iload_n dX10_at_16 rfl ?_
      refine xe_iald (v := nI ((tp k0).1)) k0 dX10_at_17 mm18 (by decide) rfl (by omega) (hNT k0 (by omega)).1 ?_
      refine xn_if_eq ((tp k0).1) 47 dX10_at_18 (by decide) rfl (by omega) (fun z => absurd z (by omega)) (fun h18 => ?_)
      refine xi_aload_n dX10_at_21 rfl ?_
      refine xi_getR dX10_at_22 fgX10_80 mm0 rfl ?_
      refine xi_iload_n dX10_at_25 rfl ?_
      refine xe_iald (v := nI ((tp k0).1)) k0 dX10_at_26 mm18 (by decide) rfl (by omega) (hNT k0 (by omega)).1 ?_
      refine xi_iconst (v := 5) dX10_at_27 rfl ?_
      refine xat 28 rfl ?_
      refine xn_icmp_eq ((tp k0).1) 5 47 dX10_at_28 (by decide) rfl rfl (by omega) (by omega) (fun z => absurd z (by omega)) (fun h28 => ?_)
      refine xi_iload_n dX10_at_31 rfl ?_
      refine xi_iconst (v := 0) dX10_at_32 rfl ?_
      refine xi_aload_n dX10_at_33 rfl ?_
      refine xi_getR dX10_at_34 fgX10_83 mm0 rfl ?_
      refine xi_iload_n dX10_at_37 rfl ?_
      refine xe_iald (v := nI ((tp k0).2.1)) k0 dX10_at_38 mm19 (by decide) rfl (by omega) ((hNT k0 (by omega)).2.1 (by omega) (by omega)).1 ?_
      refine xi_iconst (v := 1) dX10_at_39 rfl ?_
      refine xi_isub dX10_at_40 ?_
      refine xi_callS [.int x1, .int 0, .int (nI ((tp k0).2.1) - 1)] [.ref 0] dX10_at_41 zX10_in mlX10_137 rfl rfl rfl (Nat.le_of_ble_eq_true rfl) (Nat.le_of_ble_eq_true rfl) ⟨by decide, by decide⟩ ?_
      refine n_in1F (n := ((tp k0).2.1)) (by omega) hc1 ?_
      show WP _ _ 44 _ [.int (xb false), .ref 0] _ _
      refine xb_if_ne false 51 dX10_at_44 (by decide) rfl (fun z => absurd z (by decide)) (fun _ => ?_)
      refine xi_iconst (v := 2) dX10_at_47 rfl ?_
      refine xi_goto 52 dX10_at_48 (by decide) ?_
      refine xi_put dX10_at_52 fpX10_98 mm0 rfl ?_
      refine xi_aload_n dX10_at_55 rfl ?_
      refine xe_getI (v := nI 2) dX10_at_56 fgX10_98 mm0 rfl xf_s ?_
      refine xn_if_le 2 66 dX10_at_59 (by decide) rfl (by omega) (fun h59 => ?_) (fun h59 => ?_)
      · omega
      · skip
        refine xi_lconst (v := 0) dX10_at_62 rfl ?_
        refine xi_goto 77 dX10_at_63 (by decide) ?_
        refine xi_lret (v := 0) dX10_at_77 rfl ?_
        have e : a_at (G, S0, now, late, risk, A, L, sq, nl, rf, hr, lg, w, tp) (nI k0) x1 = (2, 0) := by simp only [a_at, ec0, ec1]; rw [if_neg (by omega)]
        rw [e] at h
        exact h _ (RepM_thr hC) xf_s
    refine xi_aload_n dX10_at_0 rfl ?_
    refine xi_iload_n dX10_at_1 rfl ?_
    refine xi_callS [.int (nI k0)] [.ref 0] dX10_at_2 zX10_isTape mlX10_290 rfl rfl rfl (Nat.le_of_ble_eq_true rfl) (Nat.le_of_ble_eq_true rfl) ⟨by decide, by decide⟩ ?_
    refine n_isTpT (k := k0) (by omega) ?_
    show WP _ _ 5 _ [.int (xb true), .ref 0] _ _
    refine xb_if_ne true 12 dX10_at_5 (by decide) rfl (fun _ => ?_) (fun z => absurd z (by decide))
    refine xi_aload_n dX10_at_12 rfl ?_
    refine xi_getR dX10_at_13 fgX10_80 mm0 rfl ?_
    refine xi_iload_n dX10_at_16 rfl ?_
    refine xe_iald (v := nI ((tp k0).1)) k0 dX10_at_17 mm18 (by decide) rfl (by omega) (hNT k0 (by omega)).1 ?_
    refine xn_if_eq ((tp k0).1) 47 dX10_at_18 (by decide) rfl (by omega) (fun z => absurd z (by omega)) (fun h18 => ?_)
    refine xi_aload_n dX10_at_21 rfl ?_
    refine xi_getR dX10_at_22 fgX10_80 mm0 rfl ?_
    refine xi_iload_n dX10_at_25 rfl ?_
    refine xe_iald (v := nI ((tp k0).1)) k0 dX10_at_26 mm18 (by decide) rfl (by omega) (hNT k0 (by omega)).1 ?_
    refine xi_iconst (v := 5) dX10_at_27 rfl ?_
    refine xat 28 rfl ?_
    refine xn_icmp_eq ((tp k0).1) 5 47 dX10_at_28 (by decide) rfl rfl (by omega) (by omega) (fun z => absurd z (by omega)) (fun h28 => ?_)
    refine xi_iload_n dX10_at_31 rfl ?_
    refine xi_iconst (v := 0) dX10_at_32 rfl ?_
    refine xi_aload_n dX10_at_33 rfl ?_
    refine xi_getR dX10_at_34 fgX10_83 mm0 rfl ?_
    refine xi_iload_n dX10_at_37 rfl ?_
    refine xe_iald (v := nI ((tp k0).2.1)) k0 dX10_at_38 mm19 (by decide) rfl (by omega) ((hNT k0 (by omega)).2.1 (by omega) (by omega)).1 ?_
    refine xi_iconst (v := 1) dX10_at_39 rfl ?_
    refine xi_isub dX10_at_40 ?_
    refine xi_callS [.int (nI k1), .int 0, .int (nI ((tp k0).2.1) - 1)] [.ref 0] dX10_at_41 zX10_in mlX10_137 rfl rfl rfl (Nat.le_of_ble_eq_true rfl) (Nat.le_of_ble_eq_true rfl) ⟨by decide, by decide⟩ ?_
    refine n_in1T (k := k1) (n := ((tp k0).2.1)) (by omega) (by omega) ?_
    show WP _ _ 44 _ [.int (xb true), .ref 0] _ _
    refine xb_if_ne true 51 dX10_at_44 (by decide) rfl (fun _ => ?_) (fun z => absurd z (by decide))
    refine xi_iconst (v := 0) dX10_at_51 rfl ?_
    refine xi_put dX10_at_52 fpX10_98 mm0 rfl ?_
    refine xi_aload_n dX10_at_55 rfl ?_
    refine xe_getI (v := nI 0) dX10_at_56 fgX10_98 mm0 rfl xf_s ?_
    refine xn_if_le 0 66 dX10_at_59 (by decide) rfl (by omega) (fun h59 => ?_) (fun h59 => ?_)
    · skip
      refine xi_aload_n dX10_at_66 rfl ?_
      refine xi_getR dX10_at_67 fgX10_89 mm0 rfl ?_
      refine xi_bipush (v := 100) dX10_at_70 (by decide) ?_
      refine xi_iload_n dX10_at_72 rfl ?_
      refine xe_imul dX10_at_73 (v := nI (100 * k0)) (pk_mul 100 k0) ?_
      refine xi_iload_n dX10_at_74 rfl ?_
      refine xe_iadd dX10_at_75 (v := nI (100 * k0 + k1)) (nI_add (100 * k0) k1) ?_
      refine xe_lald (v := ((tp k0).2.2.2.1 k1)) (100 * k0 + k1) dX10_at_76 mm21 (by decide) rfl (by omega) (((hNT k0 (by omega)).2.1 (by omega) (by omega)).2 k1 (by omega)) ?_
      refine xi_lret (v := ((tp k0).2.2.2.1 k1)) dX10_at_77 rfl ?_
      have e : a_at (G, S0, now, late, risk, A, L, sq, nl, rf, hr, lg, w, tp) (nI k0) (nI k1) = (0, (tp k0).2.2.2.1 k1) := by simp only [a_at, ec0, ec1]; rw [if_neg (by omega)]
      rw [e] at h
      exact h _ (RepM_thr hC) xf_s
    · omega

set_option maxHeartbeats 4000000 in
set_option maxRecDepth 100000 in
theorem xl_cp1 {Q : Option Value → xM → Prop} {d e i j n : Nat} {R : Nat → Int64} (hd : d < 6) (he : e < 6) (hi : i + n ≤ 80) (hj : j + n ≤ 80) : ∀ (f k : Nat) (M : xM), k + f = n → (∀ z, z < n → M.2.2 21 (100 * d + i + z) = R (i + z)) → (∀ z, z < k → M.2.2 22 z = R (i + z)) → (∀ M2, (M2.1 = M.1 ∧ M2.2.1 = M.2.1 ∧ ∀ a, ¬ a = 22 → M2.2.2 a = M.2.2 a) → (∀ z, z < n → M2.2.2 22 z = R (i + z)) → WP shM mX10_copy 180 [some (.ref 0), some (.int (nI d)), some (.int (nI i)), some (.int (nI e)), some (.int (nI j)), some (.int (nI n)), some (.int (nI n))] [] M2 Q) → WP shM mX10_copy 146 [some (.ref 0), some (.int (nI d)), some (.int (nI i)), some (.int (nI e)), some (.int (nI j)), some (.int (nI n)), some (.int (nI k))] [] M Q := by
  intro f
  induction f with
  | zero =>
    intro k M hf h1 h2 h
    refine xi_iload dX10_copy_146 rfl ?_
    refine xi_iload dX10_copy_148 rfl ?_
    refine xn_icmp_ge k n 180 dX10_copy_150 (by decide) rfl rfl (by omega) (by omega) (fun h150 => ?_) (fun z => absurd z (by omega))
    obtain rfl : k = n := by omega
    exact h M ⟨rfl, rfl, fun _ _ => rfl⟩ h2
  | succ f ih =>
    intro k M hf h1 h2 h
    refine xi_iload dX10_copy_146 rfl ?_
    refine xi_iload dX10_copy_148 rfl ?_
    refine xn_icmp_ge k n 180 dX10_copy_150 (by decide) rfl rfl (by omega) (by omega) (fun z => absurd z (by omega)) (fun h150 => ?_)
    refine xi_aload_n dX10_copy_153 rfl ?_
    refine xi_getR dX10_copy_154 fgX10_92 mm0 rfl ?_
    refine xi_iload dX10_copy_157 rfl ?_
    refine xi_aload_n dX10_copy_159 rfl ?_
    refine xi_getR dX10_copy_160 fgX10_89 mm0 rfl ?_
    refine xi_bipush (v := 100) dX10_copy_163 (by decide) ?_
    refine xi_iload_n dX10_copy_165 rfl ?_
    refine xe_imul dX10_copy_166 (v := nI (100 * d)) (pk_mul 100 d) ?_
    refine xat 167 rfl ?_
    refine xi_iload_n dX10_copy_167 rfl ?_
    refine xe_iadd dX10_copy_168 (v := nI (100 * d + i)) (nI_add (100 * d) i) ?_
    refine xi_iload dX10_copy_169 rfl ?_
    refine xe_iadd dX10_copy_171 (v := nI (100 * d + i + k)) (nI_add (100 * d + i) k) ?_
    refine xe_lald (v := (R (i + k))) (100 * d + i + k) dX10_copy_172 mm21 (by decide) rfl (by omega) (h1 k (by omega)) ?_
    refine xe_last k dX10_copy_173 mm22 (by decide) rfl (by omega) ?_
    generalize eM1 : (xj M 22 (vp_updL (M.2.2 22) k (R (i + k)))) = M1
    have F1 : M1.1 = M.1 ∧ M1.2.1 = M.2.1 ∧ ∀ a, ¬ a = 22 → M1.2.2 a = M.2.2 a := by rw [← eM1]; exact ⟨rfl, rfl, fun a ha => xj_n ha⟩
    have g2 : ∀ z, z < k + 1 → M1.2.2 22 z = R (i + z) := by
      intro z hz
      rw [← eM1, xj_s]
      by_cases q : z = k
      · subst q; rw [updL_s]
      · rw [updL_n q]; exact h2 z (by omega)
    refine xi_iinc (v := nI (k + 1)) (lv' := [some (.ref 0), some (.int (nI d)), some (.int (nI i)), some (.int (nI e)), some (.int (nI j)), some (.int (nI n)), some (.int (nI (k + 1)))]) dX10_copy_174 rfl (xinc k) (by decide) rfl ?_
    refine xi_goto 146 dX10_copy_177 (by decide) ?_
    exact ih (k + 1) M1 (by omega) (by rw [F1.2.2 21 (by decide)]; exact h1) g2 (fun M2 F2 z => h M2 ⟨F2.1.trans F1.1, F2.2.1.trans F1.2.1, fun a ha => (F2.2.2 a ha).trans (F1.2.2 a ha)⟩ z)

set_option maxHeartbeats 4000000 in
set_option maxRecDepth 100000 in
theorem xl_cp2 {Q : Option Value → xM → Prop} {d e i j n : Nat} {R : Nat → Int64} (hd : d < 6) (he : e < 6) (hi : i + n ≤ 80) (hj : j + n ≤ 80) : ∀ (f k : Nat) (M : xM), k + f = n → (∀ z, z < n → M.2.2 22 z = R (i + z)) → (∀ z, z < k → M.2.2 21 (100 * e + j + z) = R (i + z)) → (∀ M2, (M2.1 = M.1 ∧ M2.2.1 = M.2.1 ∧ (∀ a, ¬ a = 21 → M2.2.2 a = M.2.2 a) ∧ ∀ z, (z < 100 * e + j ∨ 100 * e + j + n ≤ z) → M2.2.2 21 z = M.2.2 21 z) → (∀ z, z < n → M2.2.2 21 (100 * e + j + z) = R (i + z)) → Q (some (.int (nI n))) M2) → WP shM mX10_copy 183 [some (.ref 0), some (.int (nI d)), some (.int (nI i)), some (.int (nI e)), some (.int (nI j)), some (.int (nI n)), some (.int (nI k))] [] M Q := by
  intro f
  induction f with
  | zero =>
    intro k M hf h1 h2 h
    refine xi_iload dX10_copy_183 rfl ?_
    refine xi_iload dX10_copy_185 rfl ?_
    refine xn_icmp_ge k n 218 dX10_copy_187 (by decide) rfl rfl (by omega) (by omega) (fun h187 => ?_) (fun z => absurd z (by omega))
    refine xi_iload dX10_copy_218 rfl ?_
    refine xi_iret (v := nI n) dX10_copy_220 rfl ?_
    exact h M ⟨rfl, rfl, fun _ _ => rfl, fun _ _ => rfl⟩ (fun z hz => h2 z (by omega))
  | succ f ih =>
    intro k M hf h1 h2 h
    refine xi_iload dX10_copy_183 rfl ?_
    refine xi_iload dX10_copy_185 rfl ?_
    refine xn_icmp_ge k n 218 dX10_copy_187 (by decide) rfl rfl (by omega) (by omega) (fun z => absurd z (by omega)) (fun h187 => ?_)
    refine xi_aload_n dX10_copy_190 rfl ?_
    refine xi_getR dX10_copy_191 fgX10_89 mm0 rfl ?_
    refine xi_bipush (v := 100) dX10_copy_194 (by decide) ?_
    refine xi_iload_n dX10_copy_196 rfl ?_
    refine xe_imul dX10_copy_197 (v := nI (100 * e)) (pk_mul 100 e) ?_
    refine xi_iload dX10_copy_198 rfl ?_
    refine xe_iadd dX10_copy_200 (v := nI (100 * e + j)) (nI_add (100 * e) j) ?_
    refine xi_iload dX10_copy_201 rfl ?_
    refine xat 203 rfl ?_
    refine xe_iadd dX10_copy_203 (v := nI (100 * e + j + k)) (nI_add (100 * e + j) k) ?_
    refine xi_aload_n dX10_copy_204 rfl ?_
    refine xi_getR dX10_copy_205 fgX10_92 mm0 rfl ?_
    refine xi_iload dX10_copy_208 rfl ?_
    refine xe_lald (v := (R (i + k))) k dX10_copy_210 mm22 (by decide) rfl (by omega) (h1 k (by omega)) ?_
    refine xe_last (100 * e + j + k) dX10_copy_211 mm21 (by decide) rfl (by omega) ?_
    generalize eM1 : (xj M 21 (vp_updL (M.2.2 21) (100 * e + j + k) (R (i + k)))) = M1
    have F1 : (M1.1 = M.1 ∧ M1.2.1 = M.2.1 ∧ (∀ a, ¬ a = 21 → M1.2.2 a = M.2.2 a) ∧ ∀ z, (z < 100 * e + j ∨ 100 * e + j + n ≤ z) → M1.2.2 21 z = M.2.2 21 z) := by rw [← eM1]; exact ⟨rfl, rfl, fun a ha => xj_n ha, fun z hz => by rw [xj_s, updL_n (by omega)]⟩
    have g2 : ∀ z, z < k + 1 → M1.2.2 21 (100 * e + j + z) = R (i + z) := by
      intro z hz
      rw [← eM1, xj_s]
      by_cases q : z = k
      · subst q; rw [updL_s]
      · rw [updL_n (by omega)]; exact h2 z (by omega)
    refine xi_iinc (v := nI (k + 1)) (lv' := [some (.ref 0), some (.int (nI d)), some (.int (nI i)), some (.int (nI e)), some (.int (nI j)), some (.int (nI n)), some (.int (nI (k + 1)))]) dX10_copy_212 rfl (xinc k) (by decide) rfl ?_
    refine xi_goto 183 dX10_copy_215 (by decide) ?_
    exact ih (k + 1) M1 (by omega) (by rw [F1.2.2.1 22 (by decide)]; exact h1) g2 (fun M2 F2 z => h M2 ⟨F2.1.trans F1.1, F2.2.1.trans F1.2.1, fun a ha => (F2.2.2.1 a ha).trans (F1.2.2.1 a ha), fun a ha => (F2.2.2.2 a ha).trans (F1.2.2.2 a ha)⟩ z)

set_option maxHeartbeats 4000000 in
set_option maxRecDepth 100000 in
theorem mo_copy {X : xX} {M : xM} {Q : Option Value → xM → Prop} (hX : wX X) (hC : RepM X M) (x0 : Int32) (x1 : Int32) (x2 : Int32) (x3 : Int32) (x4 : Int32) (h : ∀ M2, RepM (st_copy X x0 x1 x2 x3 x4).2 M2 → Q (some (.int (st_copy X x0 x1 x2 x3 x4).1)) M2) : WP shM mX10_copy 0 [some (.ref 0), some (.int x0), some (.int x1), some (.int x2), some (.int x3), some (.int x4), none] [] M Q := by
  obtain ⟨G, S0, now, late, risk, A, L, sq, nl, rf, hr, lg, w, tp⟩ := X
  obtain ⟨hW, hw0, wn, wl, wr, wA_, wsq, wnl, wmo, wtk, wwt, wtp, wO0, wB0⟩ := id hX
  obtain ⟨b1, b2, b3, b4, b5, b6, b7, b8, b9, wmap, wlink, wk0, wk1, b10, b11, wword⟩ := id hW
  have nb : nl ≤ 2000 := by rw [wnl]; exact mcnt_le 2000
  obtain ⟨hG, hNS, hNA, hNL, hNH, hNE, hNQ, hNW, hNT, hNM⟩ := id hC
  obtain ⟨hno, hla, hri, hnl, hrf, hhr⟩ := id hNM
  obtain ⟨s, es⟩ : ∃ s, s = 112 * now := ⟨_, rfl⟩
  have hs : s ≤ 56000 := by omega
  have hS : RM G (Zf G A S0 now) M s := by rw [es]; exact hNS.1 now (Nat.le_refl _)
  have hw : wS G (Zf G A S0 now) := wS_Zf hW hw0 now
  have wtq : ∀ d, (tp d).1 ≤ 5 ∧ (tp d).2.1 ≤ 100 ∧ (1 ≤ (tp d).1 ∧ (tp d).1 ≤ 4 → (tp d).2.1 ≤ 80) := fun d => ⟨(wtp d).1, (wtp d).2.1, (wtp d).2.2.2⟩
  rcases xix_cases x0 (n := 6) (by omega) with ⟨ec0, hc0⟩ | ⟨k0, hk0, rfl, ec0⟩
  · skip
    refine xi_iload_n dX10_copy_0 rfl ?_
    refine xi_callS [.int x0] [] dX10_copy_1 zX10_isTape mlX10_290 rfl rfl rfl (Nat.le_of_ble_eq_true rfl) (Nat.le_of_ble_eq_true rfl) ⟨by decide, by decide⟩ ?_
    refine n_isTpF hc0 ?_
    show WP _ _ 4 _ [.int (xb false)] _ _
    refine xb_if_eq false 14 dX10_copy_4 (by decide) rfl (fun _ => ?_) (fun z => absurd z (by decide))
    refine xi_iconst (v := (-1)) dX10_copy_14 rfl ?_
    refine xi_iret (v := (-1)) dX10_copy_15 rfl ?_
    have e : st_copy (G, S0, now, late, risk, A, L, sq, nl, rf, hr, lg, w, tp) x0 x1 x2 x3 x4 = (-1, (G, S0, now, late, risk, A, L, sq, nl, rf, hr, lg, w, tp)) := by simp only [st_copy, ec0]
    rw [e] at h
    exact h M hC
  rcases xix_cases x2 (n := 6) (by omega) with ⟨ec2, hc2⟩ | ⟨k2, hk2, rfl, ec2⟩
  · skip
    refine xi_iload_n dX10_copy_0 rfl ?_
    refine xi_callS [.int (nI k0)] [] dX10_copy_1 zX10_isTape mlX10_290 rfl rfl rfl (Nat.le_of_ble_eq_true rfl) (Nat.le_of_ble_eq_true rfl) ⟨by decide, by decide⟩ ?_
    refine n_isTpT (k := k0) (by omega) ?_
    show WP _ _ 4 _ [.int (xb true)] _ _
    refine xb_if_eq true 14 dX10_copy_4 (by decide) rfl (fun z => absurd z (by decide)) (fun _ => ?_)
    refine xi_iload_n dX10_copy_7 rfl ?_
    refine xi_callS [.int x2] [] dX10_copy_8 zX10_isTape mlX10_290 rfl rfl rfl (Nat.le_of_ble_eq_true rfl) (Nat.le_of_ble_eq_true rfl) ⟨by decide, by decide⟩ ?_
    refine n_isTpF hc2 ?_
    show WP _ _ 11 _ [.int (xb false)] _ _
    refine xb_if_ne false 16 dX10_copy_11 (by decide) rfl (fun z => absurd z (by decide)) (fun _ => ?_)
    refine xi_iconst (v := (-1)) dX10_copy_14 rfl ?_
    refine xi_iret (v := (-1)) dX10_copy_15 rfl ?_
    have e : st_copy (G, S0, now, late, risk, A, L, sq, nl, rf, hr, lg, w, tp) (nI k0) x1 x2 x3 x4 = (-1, (G, S0, now, late, risk, A, L, sq, nl, rf, hr, lg, w, tp)) := by simp only [st_copy, ec0, ec2]
    rw [e] at h
    exact h M hC
  have z0 := wtq k0
  have z2 := wtq k2
  rcases (show ((tp k0).1 = 0 ∨ (tp k2).1 = 0) ∨ ((¬ (tp k0).1 = 0 ∧ ¬ (tp k2).1 = 0) ∧ ((tp k0).1 = 5 ∨ ¬ (tp k0).1 = (tp k2).1)) ∨ (1 ≤ (tp k0).1 ∧ (tp k0).1 ≤ 4 ∧ (tp k0).1 = (tp k2).1) by omega) with hs2 | hs2 | hs2
  · skip
    rcases xrg_cases x4 (lo := 0) (hi := 80) (by omega) (by omega) with ⟨ec4, hc4⟩ | ⟨k4, hk4, hl4, rfl, ec4⟩
    · skip
      refine xi_iload_n dX10_copy_0 rfl ?_
      refine xi_callS [.int (nI k0)] [] dX10_copy_1 zX10_isTape mlX10_290 rfl rfl rfl (Nat.le_of_ble_eq_true rfl) (Nat.le_of_ble_eq_true rfl) ⟨by decide, by decide⟩ ?_
      refine n_isTpT (k := k0) (by omega) ?_
      show WP _ _ 4 _ [.int (xb true)] _ _
      refine xb_if_eq true 14 dX10_copy_4 (by decide) rfl (fun z => absurd z (by decide)) (fun _ => ?_)
      refine xi_iload_n dX10_copy_7 rfl ?_
      refine xi_callS [.int (nI k2)] [] dX10_copy_8 zX10_isTape mlX10_290 rfl rfl rfl (Nat.le_of_ble_eq_true rfl) (Nat.le_of_ble_eq_true rfl) ⟨by decide, by decide⟩ ?_
      refine n_isTpT (k := k2) (by omega) ?_
      show WP _ _ 11 _ [.int (xb true)] _ _
      refine xb_if_ne true 16 dX10_copy_11 (by decide) rfl (fun _ => ?_) (fun z => absurd z (by decide))
      refine xi_aload_n dX10_copy_16 rfl ?_
      refine xi_getR dX10_copy_17 fgX10_80 mm0 rfl ?_
      refine xi_iload_n dX10_copy_20 rfl ?_
      refine xe_iald (v := nI ((tp k0).1)) k0 dX10_copy_21 mm18 (by decide) rfl (by omega) (hNT k0 (by omega)).1 ?_
      refine xn_if_eq ((tp k0).1) 34 dX10_copy_22 (by decide) rfl (by omega) (fun h22 => ?_) (fun h22 => ?_)
      · skip
        refine xi_aload_n dX10_copy_34 rfl ?_
        refine xi_bipush (v := (-11)) dX10_copy_35 (by decide) ?_
        refine xi_callV [.int (-11)] [] dX10_copy_37 zX10_host mlX10_293 mm0 rfl rfl rfl rfl rfl (Nat.le_of_ble_eq_true rfl) (Nat.le_of_ble_eq_true rfl) ⟨by decide, by decide⟩ ?_
        refine o_host (x := (-11)) hhr ?_
        show WP _ _ 40 _ [.int (-11)] _ _
        refine xi_iret (v := (-11)) dX10_copy_40 rfl ?_
        simp only [st_copy, ec0, ec2] at h
        rw [if_pos hs2] at h
        exact h _ (RepM_ref hC)
      · skip
        refine xi_aload_n dX10_copy_25 rfl ?_
        refine xi_getR dX10_copy_26 fgX10_80 mm0 rfl ?_
        refine xi_iload_n dX10_copy_29 rfl ?_
        refine xe_iald (v := nI ((tp k2).1)) k2 dX10_copy_30 mm18 (by decide) rfl (by omega) (hNT k2 (by omega)).1 ?_
        refine xn_if_ne ((tp k2).1) 41 dX10_copy_31 (by decide) rfl (by omega) (fun h31 => ?_) (fun h31 => ?_)
        · omega
        · skip
          refine xi_aload_n dX10_copy_34 rfl ?_
          refine xi_bipush (v := (-11)) dX10_copy_35 (by decide) ?_
          refine xi_callV [.int (-11)] [] dX10_copy_37 zX10_host mlX10_293 mm0 rfl rfl rfl rfl rfl (Nat.le_of_ble_eq_true rfl) (Nat.le_of_ble_eq_true rfl) ⟨by decide, by decide⟩ ?_
          refine o_host (x := (-11)) hhr ?_
          show WP _ _ 40 _ [.int (-11)] _ _
          refine xi_iret (v := (-11)) dX10_copy_40 rfl ?_
          simp only [st_copy, ec0, ec2] at h
          rw [if_pos hs2] at h
          exact h _ (RepM_ref hC)
    rcases xrg_cases x1 (lo := 0) (hi := 80) (by omega) (by omega) with ⟨ec1, hc1⟩ | ⟨k1, hk1, hl1, rfl, ec1⟩
    · skip
      refine xi_iload_n dX10_copy_0 rfl ?_
      refine xi_callS [.int (nI k0)] [] dX10_copy_1 zX10_isTape mlX10_290 rfl rfl rfl (Nat.le_of_ble_eq_true rfl) (Nat.le_of_ble_eq_true rfl) ⟨by decide, by decide⟩ ?_
      refine n_isTpT (k := k0) (by omega) ?_
      show WP _ _ 4 _ [.int (xb true)] _ _
      refine xb_if_eq true 14 dX10_copy_4 (by decide) rfl (fun z => absurd z (by decide)) (fun _ => ?_)
      refine xi_iload_n dX10_copy_7 rfl ?_
      refine xi_callS [.int (nI k2)] [] dX10_copy_8 zX10_isTape mlX10_290 rfl rfl rfl (Nat.le_of_ble_eq_true rfl) (Nat.le_of_ble_eq_true rfl) ⟨by decide, by decide⟩ ?_
      refine n_isTpT (k := k2) (by omega) ?_
      show WP _ _ 11 _ [.int (xb true)] _ _
      refine xb_if_ne true 16 dX10_copy_11 (by decide) rfl (fun _ => ?_) (fun z => absurd z (by decide))
      refine xi_aload_n dX10_copy_16 rfl ?_
      refine xi_getR dX10_copy_17 fgX10_80 mm0 rfl ?_
      refine xi_iload_n dX10_copy_20 rfl ?_
      refine xe_iald (v := nI ((tp k0).1)) k0 dX10_copy_21 mm18 (by decide) rfl (by omega) (hNT k0 (by omega)).1 ?_
      refine xn_if_eq ((tp k0).1) 34 dX10_copy_22 (by decide) rfl (by omega) (fun h22 => ?_) (fun h22 => ?_)
      · skip
        refine xi_aload_n dX10_copy_34 rfl ?_
        refine xi_bipush (v := (-11)) dX10_copy_35 (by decide) ?_
        refine xi_callV [.int (-11)] [] dX10_copy_37 zX10_host mlX10_293 mm0 rfl rfl rfl rfl rfl (Nat.le_of_ble_eq_true rfl) (Nat.le_of_ble_eq_true rfl) ⟨by decide, by decide⟩ ?_
        refine o_host (x := (-11)) hhr ?_
        show WP _ _ 40 _ [.int (-11)] _ _
        refine xi_iret (v := (-11)) dX10_copy_40 rfl ?_
        simp only [st_copy, ec0, ec2] at h
        rw [if_pos hs2] at h
        exact h _ (RepM_ref hC)
      · skip
        refine xi_aload_n dX10_copy_25 rfl ?_
        refine xi_getR dX10_copy_26 fgX10_80 mm0 rfl ?_
        refine xi_iload_n dX10_copy_29 rfl ?_
        refine xe_iald (v := nI ((tp k2).1)) k2 dX10_copy_30 mm18 (by decide) rfl (by omega) (hNT k2 (by omega)).1 ?_
        refine xn_if_ne ((tp k2).1) 41 dX10_copy_31 (by decide) rfl (by omega) (fun h31 => ?_) (fun h31 => ?_)
        · omega
        · skip
          refine xi_aload_n dX10_copy_34 rfl ?_
          refine xi_bipush (v := (-11)) dX10_copy_35 (by decide) ?_
          refine xi_callV [.int (-11)] [] dX10_copy_37 zX10_host mlX10_293 mm0 rfl rfl rfl rfl rfl (Nat.le_of_ble_eq_true rfl) (Nat.le_of_ble_eq_true rfl) ⟨by decide, by decide⟩ ?_
          refine o_host (x := (-11)) hhr ?_
          show WP _ _ 40 _ [.int (-11)] _ _
          refine xi_iret (v := (-11)) dX10_copy_40 rfl ?_
          simp only [st_copy, ec0, ec2] at h
          rw [if_pos hs2] at h
          exact h _ (RepM_ref hC)
    rcases xrg_cases x3 (lo := 0) (hi := 80) (by omega) (by omega) with ⟨ec3, hc3⟩ | ⟨k3, hk3, hl3, rfl, ec3⟩
    · skip
      refine xi_iload_n dX10_copy_0 rfl ?_
      refine xi_callS [.int (nI k0)] [] dX10_copy_1 zX10_isTape mlX10_290 rfl rfl rfl (Nat.le_of_ble_eq_true rfl) (Nat.le_of_ble_eq_true rfl) ⟨by decide, by decide⟩ ?_
      refine n_isTpT (k := k0) (by omega) ?_
      show WP _ _ 4 _ [.int (xb true)] _ _
      refine xb_if_eq true 14 dX10_copy_4 (by decide) rfl (fun z => absurd z (by decide)) (fun _ => ?_)
      refine xi_iload_n dX10_copy_7 rfl ?_
      refine xi_callS [.int (nI k2)] [] dX10_copy_8 zX10_isTape mlX10_290 rfl rfl rfl (Nat.le_of_ble_eq_true rfl) (Nat.le_of_ble_eq_true rfl) ⟨by decide, by decide⟩ ?_
      refine n_isTpT (k := k2) (by omega) ?_
      show WP _ _ 11 _ [.int (xb true)] _ _
      refine xb_if_ne true 16 dX10_copy_11 (by decide) rfl (fun _ => ?_) (fun z => absurd z (by decide))
      refine xi_aload_n dX10_copy_16 rfl ?_
      refine xi_getR dX10_copy_17 fgX10_80 mm0 rfl ?_
      refine xi_iload_n dX10_copy_20 rfl ?_
      refine xe_iald (v := nI ((tp k0).1)) k0 dX10_copy_21 mm18 (by decide) rfl (by omega) (hNT k0 (by omega)).1 ?_
      refine xn_if_eq ((tp k0).1) 34 dX10_copy_22 (by decide) rfl (by omega) (fun h22 => ?_) (fun h22 => ?_)
      · skip
        refine xi_aload_n dX10_copy_34 rfl ?_
        refine xi_bipush (v := (-11)) dX10_copy_35 (by decide) ?_
        refine xi_callV [.int (-11)] [] dX10_copy_37 zX10_host mlX10_293 mm0 rfl rfl rfl rfl rfl (Nat.le_of_ble_eq_true rfl) (Nat.le_of_ble_eq_true rfl) ⟨by decide, by decide⟩ ?_
        refine o_host (x := (-11)) hhr ?_
        show WP _ _ 40 _ [.int (-11)] _ _
        refine xi_iret (v := (-11)) dX10_copy_40 rfl ?_
        simp only [st_copy, ec0, ec2] at h
        rw [if_pos hs2] at h
        exact h _ (RepM_ref hC)
      · skip
        refine xi_aload_n dX10_copy_25 rfl ?_
        refine xi_getR dX10_copy_26 fgX10_80 mm0 rfl ?_
        refine xi_iload_n dX10_copy_29 rfl ?_
        refine xe_iald (v := nI ((tp k2).1)) k2 dX10_copy_30 mm18 (by decide) rfl (by omega) (hNT k2 (by omega)).1 ?_
        refine xn_if_ne ((tp k2).1) 41 dX10_copy_31 (by decide) rfl (by omega) (fun h31 => ?_) (fun h31 => ?_)
        · omega
        · skip
          refine xi_aload_n dX10_copy_34 rfl ?_
          refine xi_bipush (v := (-11)) dX10_copy_35 (by decide) ?_
          refine xi_callV [.int (-11)] [] dX10_copy_37 zX10_host mlX10_293 mm0 rfl rfl rfl rfl rfl (Nat.le_of_ble_eq_true rfl) (Nat.le_of_ble_eq_true rfl) ⟨by decide, by decide⟩ ?_
          refine o_host (x := (-11)) hhr ?_
          show WP _ _ 40 _ [.int (-11)] _ _
          refine xi_iret (v := (-11)) dX10_copy_40 rfl ?_
          simp only [st_copy, ec0, ec2] at h
          rw [if_pos hs2] at h
          exact h _ (RepM_ref hC)
    refine xi_iload_n dX10_copy_0 rfl ?_
    refine xi_callS [.int (nI k0)] [] dX10_copy_1 zX10_isTape mlX10_290 rfl rfl rfl (Nat.le_of_ble_eq_true rfl) (Nat.le_of_ble_eq_true rfl) ⟨by decide, by decide⟩ ?_
    refine n_isTpT (k := k0) (by omega) ?_
    show WP _ _ 4 _ [.int (xb true)] _ _
    refine xb_if_eq true 14 dX10_copy_4 (by decide) rfl (fun z => absurd z (by decide)) (fun _ => ?_)
    refine xi_iload_n dX10_copy_7 rfl ?_
    refine xi_callS [.int (nI k2)] [] dX10_copy_8 zX10_isTape mlX10_290 rfl rfl rfl (Nat.le_of_ble_eq_true rfl) (Nat.le_of_ble_eq_true rfl) ⟨by decide, by decide⟩ ?_
    refine n_isTpT (k := k2) (by omega) ?_
    show WP _ _ 11 _ [.int (xb true)] _ _
    refine xb_if_ne true 16 dX10_copy_11 (by decide) rfl (fun _ => ?_) (fun z => absurd z (by decide))
    refine xi_aload_n dX10_copy_16 rfl ?_
    refine xi_getR dX10_copy_17 fgX10_80 mm0 rfl ?_
    refine xi_iload_n dX10_copy_20 rfl ?_
    refine xe_iald (v := nI ((tp k0).1)) k0 dX10_copy_21 mm18 (by decide) rfl (by omega) (hNT k0 (by omega)).1 ?_
    refine xn_if_eq ((tp k0).1) 34 dX10_copy_22 (by decide) rfl (by omega) (fun h22 => ?_) (fun h22 => ?_)
    · skip
      refine xi_aload_n dX10_copy_34 rfl ?_
      refine xi_bipush (v := (-11)) dX10_copy_35 (by decide) ?_
      refine xi_callV [.int (-11)] [] dX10_copy_37 zX10_host mlX10_293 mm0 rfl rfl rfl rfl rfl (Nat.le_of_ble_eq_true rfl) (Nat.le_of_ble_eq_true rfl) ⟨by decide, by decide⟩ ?_
      refine o_host (x := (-11)) hhr ?_
      show WP _ _ 40 _ [.int (-11)] _ _
      refine xi_iret (v := (-11)) dX10_copy_40 rfl ?_
      simp only [st_copy, ec0, ec2] at h
      rw [if_pos hs2] at h
      exact h _ (RepM_ref hC)
    · skip
      refine xi_aload_n dX10_copy_25 rfl ?_
      refine xi_getR dX10_copy_26 fgX10_80 mm0 rfl ?_
      refine xi_iload_n dX10_copy_29 rfl ?_
      refine xe_iald (v := nI ((tp k2).1)) k2 dX10_copy_30 mm18 (by decide) rfl (by omega) (hNT k2 (by omega)).1 ?_
      refine xn_if_ne ((tp k2).1) 41 dX10_copy_31 (by decide) rfl (by omega) (fun h31 => ?_) (fun h31 => ?_)
      · omega
      · skip
        refine xi_aload_n dX10_copy_34 rfl ?_
        refine xi_bipush (v := (-11)) dX10_copy_35 (by decide) ?_
        refine xi_callV [.int (-11)] [] dX10_copy_37 zX10_host mlX10_293 mm0 rfl rfl rfl rfl rfl (Nat.le_of_ble_eq_true rfl) (Nat.le_of_ble_eq_true rfl) ⟨by decide, by decide⟩ ?_
        refine o_host (x := (-11)) hhr ?_
        show WP _ _ 40 _ [.int (-11)] _ _
        refine xi_iret (v := (-11)) dX10_copy_40 rfl ?_
        simp only [st_copy, ec0, ec2] at h
        rw [if_pos hs2] at h
        exact h _ (RepM_ref hC)
  · skip
    rcases xrg_cases x4 (lo := 0) (hi := 80) (by omega) (by omega) with ⟨ec4, hc4⟩ | ⟨k4, hk4, hl4, rfl, ec4⟩
    · skip
      refine xi_iload_n dX10_copy_0 rfl ?_
      refine xi_callS [.int (nI k0)] [] dX10_copy_1 zX10_isTape mlX10_290 rfl rfl rfl (Nat.le_of_ble_eq_true rfl) (Nat.le_of_ble_eq_true rfl) ⟨by decide, by decide⟩ ?_
      refine n_isTpT (k := k0) (by omega) ?_
      show WP _ _ 4 _ [.int (xb true)] _ _
      refine xb_if_eq true 14 dX10_copy_4 (by decide) rfl (fun z => absurd z (by decide)) (fun _ => ?_)
      refine xi_iload_n dX10_copy_7 rfl ?_
      refine xi_callS [.int (nI k2)] [] dX10_copy_8 zX10_isTape mlX10_290 rfl rfl rfl (Nat.le_of_ble_eq_true rfl) (Nat.le_of_ble_eq_true rfl) ⟨by decide, by decide⟩ ?_
      refine n_isTpT (k := k2) (by omega) ?_
      show WP _ _ 11 _ [.int (xb true)] _ _
      refine xb_if_ne true 16 dX10_copy_11 (by decide) rfl (fun _ => ?_) (fun z => absurd z (by decide))
      refine xi_aload_n dX10_copy_16 rfl ?_
      refine xi_getR dX10_copy_17 fgX10_80 mm0 rfl ?_
      refine xi_iload_n dX10_copy_20 rfl ?_
      refine xe_iald (v := nI ((tp k0).1)) k0 dX10_copy_21 mm18 (by decide) rfl (by omega) (hNT k0 (by omega)).1 ?_
      refine xn_if_eq ((tp k0).1) 34 dX10_copy_22 (by decide) rfl (by omega) (fun z => absurd z (by omega)) (fun h22 => ?_)
      refine xi_aload_n dX10_copy_25 rfl ?_
      refine xi_getR dX10_copy_26 fgX10_80 mm0 rfl ?_
      refine xi_iload_n dX10_copy_29 rfl ?_
      refine xe_iald (v := nI ((tp k2).1)) k2 dX10_copy_30 mm18 (by decide) rfl (by omega) (hNT k2 (by omega)).1 ?_
      refine xn_if_ne ((tp k2).1) 41 dX10_copy_31 (by decide) rfl (by omega) (fun h31 => ?_) (fun z => absurd z (by omega))
      refine xat 41 rfl ?_
      refine xi_aload_n dX10_copy_41 rfl ?_
      refine xi_getR dX10_copy_42 fgX10_80 mm0 rfl ?_
      refine xi_iload_n dX10_copy_45 rfl ?_
      refine xe_iald (v := nI ((tp k0).1)) k0 dX10_copy_46 mm18 (by decide) rfl (by omega) (hNT k0 (by omega)).1 ?_
      refine xi_iconst (v := 5) dX10_copy_47 rfl ?_
      refine xn_icmp_eq ((tp k0).1) 5 66 dX10_copy_48 (by decide) rfl rfl (by omega) (by omega) (fun h48 => ?_) (fun h48 => ?_)
      · skip
        refine xi_aload_n dX10_copy_66 rfl ?_
        refine xi_bipush (v := (-12)) dX10_copy_67 (by decide) ?_
        refine xi_callV [.int (-12)] [] dX10_copy_69 zX10_host mlX10_293 mm0 rfl rfl rfl rfl rfl (Nat.le_of_ble_eq_true rfl) (Nat.le_of_ble_eq_true rfl) ⟨by decide, by decide⟩ ?_
        refine o_host (x := (-12)) hhr ?_
        show WP _ _ 72 _ [.int (-12)] _ _
        refine xi_iret (v := (-12)) dX10_copy_72 rfl ?_
        simp only [st_copy, ec0, ec2] at h
        rw [if_neg (by omega), if_pos hs2.2] at h
        exact h _ (RepM_ref hC)
      · skip
        refine xi_aload_n dX10_copy_51 rfl ?_
        refine xi_getR dX10_copy_52 fgX10_80 mm0 rfl ?_
        refine xi_iload_n dX10_copy_55 rfl ?_
        refine xe_iald (v := nI ((tp k0).1)) k0 dX10_copy_56 mm18 (by decide) rfl (by omega) (hNT k0 (by omega)).1 ?_
        refine xi_aload_n dX10_copy_57 rfl ?_
        refine xi_getR dX10_copy_58 fgX10_80 mm0 rfl ?_
        refine xi_iload_n dX10_copy_61 rfl ?_
        refine xe_iald (v := nI ((tp k2).1)) k2 dX10_copy_62 mm18 (by decide) rfl (by omega) (hNT k2 (by omega)).1 ?_
        refine xn_icmp_eq ((tp k0).1) ((tp k2).1) 73 dX10_copy_63 (by decide) rfl rfl (by omega) (by omega) (fun h63 => ?_) (fun h63 => ?_)
        · omega
        · skip
          refine xi_aload_n dX10_copy_66 rfl ?_
          refine xi_bipush (v := (-12)) dX10_copy_67 (by decide) ?_
          refine xi_callV [.int (-12)] [] dX10_copy_69 zX10_host mlX10_293 mm0 rfl rfl rfl rfl rfl (Nat.le_of_ble_eq_true rfl) (Nat.le_of_ble_eq_true rfl) ⟨by decide, by decide⟩ ?_
          refine o_host (x := (-12)) hhr ?_
          show WP _ _ 72 _ [.int (-12)] _ _
          refine xi_iret (v := (-12)) dX10_copy_72 rfl ?_
          simp only [st_copy, ec0, ec2] at h
          rw [if_neg (by omega), if_pos hs2.2] at h
          exact h _ (RepM_ref hC)
    rcases xrg_cases x1 (lo := 0) (hi := 80) (by omega) (by omega) with ⟨ec1, hc1⟩ | ⟨k1, hk1, hl1, rfl, ec1⟩
    · skip
      refine xi_iload_n dX10_copy_0 rfl ?_
      refine xi_callS [.int (nI k0)] [] dX10_copy_1 zX10_isTape mlX10_290 rfl rfl rfl (Nat.le_of_ble_eq_true rfl) (Nat.le_of_ble_eq_true rfl) ⟨by decide, by decide⟩ ?_
      refine n_isTpT (k := k0) (by omega) ?_
      show WP _ _ 4 _ [.int (xb true)] _ _
      refine xb_if_eq true 14 dX10_copy_4 (by decide) rfl (fun z => absurd z (by decide)) (fun _ => ?_)
      refine xi_iload_n dX10_copy_7 rfl ?_
      refine xi_callS [.int (nI k2)] [] dX10_copy_8 zX10_isTape mlX10_290 rfl rfl rfl (Nat.le_of_ble_eq_true rfl) (Nat.le_of_ble_eq_true rfl) ⟨by decide, by decide⟩ ?_
      refine n_isTpT (k := k2) (by omega) ?_
      show WP _ _ 11 _ [.int (xb true)] _ _
      refine xb_if_ne true 16 dX10_copy_11 (by decide) rfl (fun _ => ?_) (fun z => absurd z (by decide))
      refine xi_aload_n dX10_copy_16 rfl ?_
      refine xi_getR dX10_copy_17 fgX10_80 mm0 rfl ?_
      refine xi_iload_n dX10_copy_20 rfl ?_
      refine xe_iald (v := nI ((tp k0).1)) k0 dX10_copy_21 mm18 (by decide) rfl (by omega) (hNT k0 (by omega)).1 ?_
      refine xn_if_eq ((tp k0).1) 34 dX10_copy_22 (by decide) rfl (by omega) (fun z => absurd z (by omega)) (fun h22 => ?_)
      refine xi_aload_n dX10_copy_25 rfl ?_
      refine xi_getR dX10_copy_26 fgX10_80 mm0 rfl ?_
      refine xi_iload_n dX10_copy_29 rfl ?_
      refine xe_iald (v := nI ((tp k2).1)) k2 dX10_copy_30 mm18 (by decide) rfl (by omega) (hNT k2 (by omega)).1 ?_
      refine xn_if_ne ((tp k2).1) 41 dX10_copy_31 (by decide) rfl (by omega) (fun h31 => ?_) (fun z => absurd z (by omega))
      refine xat 41 rfl ?_
      refine xi_aload_n dX10_copy_41 rfl ?_
      refine xi_getR dX10_copy_42 fgX10_80 mm0 rfl ?_
      refine xi_iload_n dX10_copy_45 rfl ?_
      refine xe_iald (v := nI ((tp k0).1)) k0 dX10_copy_46 mm18 (by decide) rfl (by omega) (hNT k0 (by omega)).1 ?_
      refine xi_iconst (v := 5) dX10_copy_47 rfl ?_
      refine xn_icmp_eq ((tp k0).1) 5 66 dX10_copy_48 (by decide) rfl rfl (by omega) (by omega) (fun h48 => ?_) (fun h48 => ?_)
      · skip
        refine xi_aload_n dX10_copy_66 rfl ?_
        refine xi_bipush (v := (-12)) dX10_copy_67 (by decide) ?_
        refine xi_callV [.int (-12)] [] dX10_copy_69 zX10_host mlX10_293 mm0 rfl rfl rfl rfl rfl (Nat.le_of_ble_eq_true rfl) (Nat.le_of_ble_eq_true rfl) ⟨by decide, by decide⟩ ?_
        refine o_host (x := (-12)) hhr ?_
        show WP _ _ 72 _ [.int (-12)] _ _
        refine xi_iret (v := (-12)) dX10_copy_72 rfl ?_
        simp only [st_copy, ec0, ec2] at h
        rw [if_neg (by omega), if_pos hs2.2] at h
        exact h _ (RepM_ref hC)
      · skip
        refine xi_aload_n dX10_copy_51 rfl ?_
        refine xi_getR dX10_copy_52 fgX10_80 mm0 rfl ?_
        refine xi_iload_n dX10_copy_55 rfl ?_
        refine xe_iald (v := nI ((tp k0).1)) k0 dX10_copy_56 mm18 (by decide) rfl (by omega) (hNT k0 (by omega)).1 ?_
        refine xi_aload_n dX10_copy_57 rfl ?_
        refine xi_getR dX10_copy_58 fgX10_80 mm0 rfl ?_
        refine xi_iload_n dX10_copy_61 rfl ?_
        refine xe_iald (v := nI ((tp k2).1)) k2 dX10_copy_62 mm18 (by decide) rfl (by omega) (hNT k2 (by omega)).1 ?_
        refine xn_icmp_eq ((tp k0).1) ((tp k2).1) 73 dX10_copy_63 (by decide) rfl rfl (by omega) (by omega) (fun h63 => ?_) (fun h63 => ?_)
        · omega
        · skip
          refine xi_aload_n dX10_copy_66 rfl ?_
          refine xi_bipush (v := (-12)) dX10_copy_67 (by decide) ?_
          refine xi_callV [.int (-12)] [] dX10_copy_69 zX10_host mlX10_293 mm0 rfl rfl rfl rfl rfl (Nat.le_of_ble_eq_true rfl) (Nat.le_of_ble_eq_true rfl) ⟨by decide, by decide⟩ ?_
          refine o_host (x := (-12)) hhr ?_
          show WP _ _ 72 _ [.int (-12)] _ _
          refine xi_iret (v := (-12)) dX10_copy_72 rfl ?_
          simp only [st_copy, ec0, ec2] at h
          rw [if_neg (by omega), if_pos hs2.2] at h
          exact h _ (RepM_ref hC)
    rcases xrg_cases x3 (lo := 0) (hi := 80) (by omega) (by omega) with ⟨ec3, hc3⟩ | ⟨k3, hk3, hl3, rfl, ec3⟩
    · skip
      refine xi_iload_n dX10_copy_0 rfl ?_
      refine xi_callS [.int (nI k0)] [] dX10_copy_1 zX10_isTape mlX10_290 rfl rfl rfl (Nat.le_of_ble_eq_true rfl) (Nat.le_of_ble_eq_true rfl) ⟨by decide, by decide⟩ ?_
      refine n_isTpT (k := k0) (by omega) ?_
      show WP _ _ 4 _ [.int (xb true)] _ _
      refine xb_if_eq true 14 dX10_copy_4 (by decide) rfl (fun z => absurd z (by decide)) (fun _ => ?_)
      refine xi_iload_n dX10_copy_7 rfl ?_
      refine xi_callS [.int (nI k2)] [] dX10_copy_8 zX10_isTape mlX10_290 rfl rfl rfl (Nat.le_of_ble_eq_true rfl) (Nat.le_of_ble_eq_true rfl) ⟨by decide, by decide⟩ ?_
      refine n_isTpT (k := k2) (by omega) ?_
      show WP _ _ 11 _ [.int (xb true)] _ _
      refine xb_if_ne true 16 dX10_copy_11 (by decide) rfl (fun _ => ?_) (fun z => absurd z (by decide))
      refine xi_aload_n dX10_copy_16 rfl ?_
      refine xi_getR dX10_copy_17 fgX10_80 mm0 rfl ?_
      refine xi_iload_n dX10_copy_20 rfl ?_
      refine xe_iald (v := nI ((tp k0).1)) k0 dX10_copy_21 mm18 (by decide) rfl (by omega) (hNT k0 (by omega)).1 ?_
      refine xn_if_eq ((tp k0).1) 34 dX10_copy_22 (by decide) rfl (by omega) (fun z => absurd z (by omega)) (fun h22 => ?_)
      refine xi_aload_n dX10_copy_25 rfl ?_
      refine xi_getR dX10_copy_26 fgX10_80 mm0 rfl ?_
      refine xi_iload_n dX10_copy_29 rfl ?_
      refine xe_iald (v := nI ((tp k2).1)) k2 dX10_copy_30 mm18 (by decide) rfl (by omega) (hNT k2 (by omega)).1 ?_
      refine xn_if_ne ((tp k2).1) 41 dX10_copy_31 (by decide) rfl (by omega) (fun h31 => ?_) (fun z => absurd z (by omega))
      refine xat 41 rfl ?_
      refine xi_aload_n dX10_copy_41 rfl ?_
      refine xi_getR dX10_copy_42 fgX10_80 mm0 rfl ?_
      refine xi_iload_n dX10_copy_45 rfl ?_
      refine xe_iald (v := nI ((tp k0).1)) k0 dX10_copy_46 mm18 (by decide) rfl (by omega) (hNT k0 (by omega)).1 ?_
      refine xi_iconst (v := 5) dX10_copy_47 rfl ?_
      refine xn_icmp_eq ((tp k0).1) 5 66 dX10_copy_48 (by decide) rfl rfl (by omega) (by omega) (fun h48 => ?_) (fun h48 => ?_)
      · skip
        refine xi_aload_n dX10_copy_66 rfl ?_
        refine xi_bipush (v := (-12)) dX10_copy_67 (by decide) ?_
        refine xi_callV [.int (-12)] [] dX10_copy_69 zX10_host mlX10_293 mm0 rfl rfl rfl rfl rfl (Nat.le_of_ble_eq_true rfl) (Nat.le_of_ble_eq_true rfl) ⟨by decide, by decide⟩ ?_
        refine o_host (x := (-12)) hhr ?_
        show WP _ _ 72 _ [.int (-12)] _ _
        refine xi_iret (v := (-12)) dX10_copy_72 rfl ?_
        simp only [st_copy, ec0, ec2] at h
        rw [if_neg (by omega), if_pos hs2.2] at h
        exact h _ (RepM_ref hC)
      · skip
        refine xi_aload_n dX10_copy_51 rfl ?_
        refine xi_getR dX10_copy_52 fgX10_80 mm0 rfl ?_
        refine xi_iload_n dX10_copy_55 rfl ?_
        refine xe_iald (v := nI ((tp k0).1)) k0 dX10_copy_56 mm18 (by decide) rfl (by omega) (hNT k0 (by omega)).1 ?_
        refine xi_aload_n dX10_copy_57 rfl ?_
        refine xi_getR dX10_copy_58 fgX10_80 mm0 rfl ?_
        refine xi_iload_n dX10_copy_61 rfl ?_
        refine xe_iald (v := nI ((tp k2).1)) k2 dX10_copy_62 mm18 (by decide) rfl (by omega) (hNT k2 (by omega)).1 ?_
        refine xn_icmp_eq ((tp k0).1) ((tp k2).1) 73 dX10_copy_63 (by decide) rfl rfl (by omega) (by omega) (fun h63 => ?_) (fun h63 => ?_)
        · omega
        · skip
          refine xi_aload_n dX10_copy_66 rfl ?_
          refine xi_bipush (v := (-12)) dX10_copy_67 (by decide) ?_
          refine xi_callV [.int (-12)] [] dX10_copy_69 zX10_host mlX10_293 mm0 rfl rfl rfl rfl rfl (Nat.le_of_ble_eq_true rfl) (Nat.le_of_ble_eq_true rfl) ⟨by decide, by decide⟩ ?_
          refine o_host (x := (-12)) hhr ?_
          show WP _ _ 72 _ [.int (-12)] _ _
          refine xi_iret (v := (-12)) dX10_copy_72 rfl ?_
          simp only [st_copy, ec0, ec2] at h
          rw [if_neg (by omega), if_pos hs2.2] at h
          exact h _ (RepM_ref hC)
    refine xi_iload_n dX10_copy_0 rfl ?_
    refine xi_callS [.int (nI k0)] [] dX10_copy_1 zX10_isTape mlX10_290 rfl rfl rfl (Nat.le_of_ble_eq_true rfl) (Nat.le_of_ble_eq_true rfl) ⟨by decide, by decide⟩ ?_
    refine n_isTpT (k := k0) (by omega) ?_
    show WP _ _ 4 _ [.int (xb true)] _ _
    refine xb_if_eq true 14 dX10_copy_4 (by decide) rfl (fun z => absurd z (by decide)) (fun _ => ?_)
    refine xi_iload_n dX10_copy_7 rfl ?_
    refine xi_callS [.int (nI k2)] [] dX10_copy_8 zX10_isTape mlX10_290 rfl rfl rfl (Nat.le_of_ble_eq_true rfl) (Nat.le_of_ble_eq_true rfl) ⟨by decide, by decide⟩ ?_
    refine n_isTpT (k := k2) (by omega) ?_
    show WP _ _ 11 _ [.int (xb true)] _ _
    refine xb_if_ne true 16 dX10_copy_11 (by decide) rfl (fun _ => ?_) (fun z => absurd z (by decide))
    refine xi_aload_n dX10_copy_16 rfl ?_
    refine xi_getR dX10_copy_17 fgX10_80 mm0 rfl ?_
    refine xi_iload_n dX10_copy_20 rfl ?_
    refine xe_iald (v := nI ((tp k0).1)) k0 dX10_copy_21 mm18 (by decide) rfl (by omega) (hNT k0 (by omega)).1 ?_
    refine xn_if_eq ((tp k0).1) 34 dX10_copy_22 (by decide) rfl (by omega) (fun z => absurd z (by omega)) (fun h22 => ?_)
    refine xi_aload_n dX10_copy_25 rfl ?_
    refine xi_getR dX10_copy_26 fgX10_80 mm0 rfl ?_
    refine xi_iload_n dX10_copy_29 rfl ?_
    refine xe_iald (v := nI ((tp k2).1)) k2 dX10_copy_30 mm18 (by decide) rfl (by omega) (hNT k2 (by omega)).1 ?_
    refine xn_if_ne ((tp k2).1) 41 dX10_copy_31 (by decide) rfl (by omega) (fun h31 => ?_) (fun z => absurd z (by omega))
    refine xat 41 rfl ?_
    refine xi_aload_n dX10_copy_41 rfl ?_
    refine xi_getR dX10_copy_42 fgX10_80 mm0 rfl ?_
    refine xi_iload_n dX10_copy_45 rfl ?_
    refine xe_iald (v := nI ((tp k0).1)) k0 dX10_copy_46 mm18 (by decide) rfl (by omega) (hNT k0 (by omega)).1 ?_
    refine xi_iconst (v := 5) dX10_copy_47 rfl ?_
    refine xn_icmp_eq ((tp k0).1) 5 66 dX10_copy_48 (by decide) rfl rfl (by omega) (by omega) (fun h48 => ?_) (fun h48 => ?_)
    · skip
      refine xi_aload_n dX10_copy_66 rfl ?_
      refine xi_bipush (v := (-12)) dX10_copy_67 (by decide) ?_
      refine xi_callV [.int (-12)] [] dX10_copy_69 zX10_host mlX10_293 mm0 rfl rfl rfl rfl rfl (Nat.le_of_ble_eq_true rfl) (Nat.le_of_ble_eq_true rfl) ⟨by decide, by decide⟩ ?_
      refine o_host (x := (-12)) hhr ?_
      show WP _ _ 72 _ [.int (-12)] _ _
      refine xi_iret (v := (-12)) dX10_copy_72 rfl ?_
      simp only [st_copy, ec0, ec2] at h
      rw [if_neg (by omega), if_pos hs2.2] at h
      exact h _ (RepM_ref hC)
    · skip
      refine xi_aload_n dX10_copy_51 rfl ?_
      refine xi_getR dX10_copy_52 fgX10_80 mm0 rfl ?_
      refine xi_iload_n dX10_copy_55 rfl ?_
      refine xe_iald (v := nI ((tp k0).1)) k0 dX10_copy_56 mm18 (by decide) rfl (by omega) (hNT k0 (by omega)).1 ?_
      refine xi_aload_n dX10_copy_57 rfl ?_
      refine xi_getR dX10_copy_58 fgX10_80 mm0 rfl ?_
      refine xi_iload_n dX10_copy_61 rfl ?_
      refine xe_iald (v := nI ((tp k2).1)) k2 dX10_copy_62 mm18 (by decide) rfl (by omega) (hNT k2 (by omega)).1 ?_
      refine xn_icmp_eq ((tp k0).1) ((tp k2).1) 73 dX10_copy_63 (by decide) rfl rfl (by omega) (by omega) (fun h63 => ?_) (fun h63 => ?_)
      · omega
      · skip
        refine xi_aload_n dX10_copy_66 rfl ?_
        refine xi_bipush (v := (-12)) dX10_copy_67 (by decide) ?_
        refine xi_callV [.int (-12)] [] dX10_copy_69 zX10_host mlX10_293 mm0 rfl rfl rfl rfl rfl (Nat.le_of_ble_eq_true rfl) (Nat.le_of_ble_eq_true rfl) ⟨by decide, by decide⟩ ?_
        refine o_host (x := (-12)) hhr ?_
        show WP _ _ 72 _ [.int (-12)] _ _
        refine xi_iret (v := (-12)) dX10_copy_72 rfl ?_
        simp only [st_copy, ec0, ec2] at h
        rw [if_neg (by omega), if_pos hs2.2] at h
        exact h _ (RepM_ref hC)
  · skip
    rcases xrg_cases x4 (lo := 0) (hi := 80) (by omega) (by omega) with ⟨ec4, hc4⟩ | ⟨k4, hk4, hl4, rfl, ec4⟩
    · skip
      refine xi_iload_n dX10_copy_0 rfl ?_
      refine xi_callS [.int (nI k0)] [] dX10_copy_1 zX10_isTape mlX10_290 rfl rfl rfl (Nat.le_of_ble_eq_true rfl) (Nat.le_of_ble_eq_true rfl) ⟨by decide, by decide⟩ ?_
      refine n_isTpT (k := k0) (by omega) ?_
      show WP _ _ 4 _ [.int (xb true)] _ _
      refine xb_if_eq true 14 dX10_copy_4 (by decide) rfl (fun z => absurd z (by decide)) (fun _ => ?_)
      refine xi_iload_n dX10_copy_7 rfl ?_
      refine xi_callS [.int (nI k2)] [] dX10_copy_8 zX10_isTape mlX10_290 rfl rfl rfl (Nat.le_of_ble_eq_true rfl) (Nat.le_of_ble_eq_true rfl) ⟨by decide, by decide⟩ ?_
      refine n_isTpT (k := k2) (by omega) ?_
      show WP _ _ 11 _ [.int (xb true)] _ _
      refine xb_if_ne true 16 dX10_copy_11 (by decide) rfl (fun _ => ?_) (fun z => absurd z (by decide))
      refine xi_aload_n dX10_copy_16 rfl ?_
      refine xi_getR dX10_copy_17 fgX10_80 mm0 rfl ?_
      refine xi_iload_n dX10_copy_20 rfl ?_
      refine xe_iald (v := nI ((tp k0).1)) k0 dX10_copy_21 mm18 (by decide) rfl (by omega) (hNT k0 (by omega)).1 ?_
      refine xn_if_eq ((tp k0).1) 34 dX10_copy_22 (by decide) rfl (by omega) (fun z => absurd z (by omega)) (fun h22 => ?_)
      refine xi_aload_n dX10_copy_25 rfl ?_
      refine xi_getR dX10_copy_26 fgX10_80 mm0 rfl ?_
      refine xi_iload_n dX10_copy_29 rfl ?_
      refine xe_iald (v := nI ((tp k2).1)) k2 dX10_copy_30 mm18 (by decide) rfl (by omega) (hNT k2 (by omega)).1 ?_
      refine xn_if_ne ((tp k2).1) 41 dX10_copy_31 (by decide) rfl (by omega) (fun h31 => ?_) (fun z => absurd z (by omega))
      refine xat 41 rfl ?_
      refine xi_aload_n dX10_copy_41 rfl ?_
      refine xi_getR dX10_copy_42 fgX10_80 mm0 rfl ?_
      refine xi_iload_n dX10_copy_45 rfl ?_
      refine xe_iald (v := nI ((tp k0).1)) k0 dX10_copy_46 mm18 (by decide) rfl (by omega) (hNT k0 (by omega)).1 ?_
      refine xi_iconst (v := 5) dX10_copy_47 rfl ?_
      refine xn_icmp_eq ((tp k0).1) 5 66 dX10_copy_48 (by decide) rfl rfl (by omega) (by omega) (fun z => absurd z (by omega)) (fun h48 => ?_)
      refine xi_aload_n dX10_copy_51 rfl ?_
      refine xi_getR dX10_copy_52 fgX10_80 mm0 rfl ?_
      refine xi_iload_n dX10_copy_55 rfl ?_
      refine xe_iald (v := nI ((tp k0).1)) k0 dX10_copy_56 mm18 (by decide) rfl (by omega) (hNT k0 (by omega)).1 ?_
      refine xi_aload_n dX10_copy_57 rfl ?_
      refine xi_getR dX10_copy_58 fgX10_80 mm0 rfl ?_
      refine xat 61 rfl ?_
      refine xi_iload_n dX10_copy_61 rfl ?_
      refine xe_iald (v := nI ((tp k2).1)) k2 dX10_copy_62 mm18 (by decide) rfl (by omega) (hNT k2 (by omega)).1 ?_
      refine xn_icmp_eq ((tp k0).1) ((tp k2).1) 73 dX10_copy_63 (by decide) rfl rfl (by omega) (by omega) (fun h63 => ?_) (fun z => absurd z (by omega))
      refine xi_iload dX10_copy_73 rfl ?_
      refine xi_if_lt 136 dX10_copy_75 (by decide) (fun h75 => ?_) (fun h75 => ?_)
      · skip
        refine xi_aload_n dX10_copy_136 rfl ?_
        refine xi_bipush (v := (-13)) dX10_copy_137 (by decide) ?_
        refine xi_callV [.int (-13)] [] dX10_copy_139 zX10_host mlX10_293 mm0 rfl rfl rfl rfl rfl (Nat.le_of_ble_eq_true rfl) (Nat.le_of_ble_eq_true rfl) ⟨by decide, by decide⟩ ?_
        refine o_host (x := (-13)) hhr ?_
        show WP _ _ 142 _ [.int (-13)] _ _
        refine xi_iret (v := (-13)) dX10_copy_142 rfl ?_
        simp only [st_copy, ec0, ec2] at h
        rw [if_neg (by omega), if_neg (by omega)] at h
        simp only [ec4] at h
        exact h _ (RepM_ref hC)
      · skip
        refine xi_iload_n dX10_copy_78 rfl ?_
        refine xi_if_lt 136 dX10_copy_79 (by decide) (fun h79 => ?_) (fun h79 => ?_)
        · skip
          refine xi_aload_n dX10_copy_136 rfl ?_
          refine xi_bipush (v := (-13)) dX10_copy_137 (by decide) ?_
          refine xi_callV [.int (-13)] [] dX10_copy_139 zX10_host mlX10_293 mm0 rfl rfl rfl rfl rfl (Nat.le_of_ble_eq_true rfl) (Nat.le_of_ble_eq_true rfl) ⟨by decide, by decide⟩ ?_
          refine o_host (x := (-13)) hhr ?_
          show WP _ _ 142 _ [.int (-13)] _ _
          refine xi_iret (v := (-13)) dX10_copy_142 rfl ?_
          simp only [st_copy, ec0, ec2] at h
          rw [if_neg (by omega), if_neg (by omega)] at h
          simp only [ec4] at h
          exact h _ (RepM_ref hC)
        · skip
          refine xi_iload dX10_copy_82 rfl ?_
          refine xi_if_lt 136 dX10_copy_84 (by decide) (fun h84 => ?_) (fun h84 => ?_)
          · skip
            refine xi_aload_n dX10_copy_136 rfl ?_
            refine xi_bipush (v := (-13)) dX10_copy_137 (by decide) ?_
            refine xi_callV [.int (-13)] [] dX10_copy_139 zX10_host mlX10_293 mm0 rfl rfl rfl rfl rfl (Nat.le_of_ble_eq_true rfl) (Nat.le_of_ble_eq_true rfl) ⟨by decide, by decide⟩ ?_
            refine o_host (x := (-13)) hhr ?_
            show WP _ _ 142 _ [.int (-13)] _ _
            refine xi_iret (v := (-13)) dX10_copy_142 rfl ?_
            simp only [st_copy, ec0, ec2] at h
            rw [if_neg (by omega), if_neg (by omega)] at h
            simp only [ec4] at h
            exact h _ (RepM_ref hC)
          · skip
            refine xi_iload dX10_copy_87 rfl ?_
            refine xi_aload_n dX10_copy_89 rfl ?_
            refine xi_getR dX10_copy_90 fgX10_83 mm0 rfl ?_
            refine xi_iload_n dX10_copy_93 rfl ?_
            refine xe_iald (v := nI ((tp k0).2.1)) k0 dX10_copy_94 mm19 (by decide) rfl (by omega) ((hNT k0 (by omega)).2.1 (by omega) (by omega)).1 ?_
            refine xi_icmp_gt 136 dX10_copy_95 (by decide) (fun h95 => ?_) (fun h95 => ?_)
            · skip
              refine xi_aload_n dX10_copy_136 rfl ?_
              refine xi_bipush (v := (-13)) dX10_copy_137 (by decide) ?_
              refine xi_callV [.int (-13)] [] dX10_copy_139 zX10_host mlX10_293 mm0 rfl rfl rfl rfl rfl (Nat.le_of_ble_eq_true rfl) (Nat.le_of_ble_eq_true rfl) ⟨by decide, by decide⟩ ?_
              refine o_host (x := (-13)) hhr ?_
              show WP _ _ 142 _ [.int (-13)] _ _
              refine xi_iret (v := (-13)) dX10_copy_142 rfl ?_
              simp only [st_copy, ec0, ec2] at h
              rw [if_neg (by omega), if_neg (by omega)] at h
              simp only [ec4] at h
              exact h _ (RepM_ref hC)
            · exact hc4.elim (fun q => absurd q h75) (fun q => absurd (Int32.lt_of_le_of_lt (nI_le (by omega) (by omega)) q) h95)
    rcases xrg_cases x1 (lo := 0) (hi := 80) (by omega) (by omega) with ⟨ec1, hc1⟩ | ⟨k1, hk1, hl1, rfl, ec1⟩
    · skip
      refine xi_iload_n dX10_copy_0 rfl ?_
      refine xi_callS [.int (nI k0)] [] dX10_copy_1 zX10_isTape mlX10_290 rfl rfl rfl (Nat.le_of_ble_eq_true rfl) (Nat.le_of_ble_eq_true rfl) ⟨by decide, by decide⟩ ?_
      refine n_isTpT (k := k0) (by omega) ?_
      show WP _ _ 4 _ [.int (xb true)] _ _
      refine xb_if_eq true 14 dX10_copy_4 (by decide) rfl (fun z => absurd z (by decide)) (fun _ => ?_)
      refine xi_iload_n dX10_copy_7 rfl ?_
      refine xi_callS [.int (nI k2)] [] dX10_copy_8 zX10_isTape mlX10_290 rfl rfl rfl (Nat.le_of_ble_eq_true rfl) (Nat.le_of_ble_eq_true rfl) ⟨by decide, by decide⟩ ?_
      refine n_isTpT (k := k2) (by omega) ?_
      show WP _ _ 11 _ [.int (xb true)] _ _
      refine xb_if_ne true 16 dX10_copy_11 (by decide) rfl (fun _ => ?_) (fun z => absurd z (by decide))
      refine xi_aload_n dX10_copy_16 rfl ?_
      refine xi_getR dX10_copy_17 fgX10_80 mm0 rfl ?_
      refine xi_iload_n dX10_copy_20 rfl ?_
      refine xe_iald (v := nI ((tp k0).1)) k0 dX10_copy_21 mm18 (by decide) rfl (by omega) (hNT k0 (by omega)).1 ?_
      refine xn_if_eq ((tp k0).1) 34 dX10_copy_22 (by decide) rfl (by omega) (fun z => absurd z (by omega)) (fun h22 => ?_)
      refine xi_aload_n dX10_copy_25 rfl ?_
      refine xi_getR dX10_copy_26 fgX10_80 mm0 rfl ?_
      refine xi_iload_n dX10_copy_29 rfl ?_
      refine xe_iald (v := nI ((tp k2).1)) k2 dX10_copy_30 mm18 (by decide) rfl (by omega) (hNT k2 (by omega)).1 ?_
      refine xn_if_ne ((tp k2).1) 41 dX10_copy_31 (by decide) rfl (by omega) (fun h31 => ?_) (fun z => absurd z (by omega))
      refine xat 41 rfl ?_
      refine xi_aload_n dX10_copy_41 rfl ?_
      refine xi_getR dX10_copy_42 fgX10_80 mm0 rfl ?_
      refine xi_iload_n dX10_copy_45 rfl ?_
      refine xe_iald (v := nI ((tp k0).1)) k0 dX10_copy_46 mm18 (by decide) rfl (by omega) (hNT k0 (by omega)).1 ?_
      refine xi_iconst (v := 5) dX10_copy_47 rfl ?_
      refine xn_icmp_eq ((tp k0).1) 5 66 dX10_copy_48 (by decide) rfl rfl (by omega) (by omega) (fun z => absurd z (by omega)) (fun h48 => ?_)
      refine xi_aload_n dX10_copy_51 rfl ?_
      refine xi_getR dX10_copy_52 fgX10_80 mm0 rfl ?_
      refine xi_iload_n dX10_copy_55 rfl ?_
      refine xe_iald (v := nI ((tp k0).1)) k0 dX10_copy_56 mm18 (by decide) rfl (by omega) (hNT k0 (by omega)).1 ?_
      refine xi_aload_n dX10_copy_57 rfl ?_
      refine xi_getR dX10_copy_58 fgX10_80 mm0 rfl ?_
      refine xat 61 rfl ?_
      refine xi_iload_n dX10_copy_61 rfl ?_
      refine xe_iald (v := nI ((tp k2).1)) k2 dX10_copy_62 mm18 (by decide) rfl (by omega) (hNT k2 (by omega)).1 ?_
      refine xn_icmp_eq ((tp k0).1) ((tp k2).1) 73 dX10_copy_63 (by decide) rfl rfl (by omega) (by omega) (fun h63 => ?_) (fun z => absurd z (by omega))
      refine xi_iload dX10_copy_73 rfl ?_
      refine xn_if_lt k4 136 dX10_copy_75 (by decide) rfl (by omega) ?_
      refine xi_iload_n dX10_copy_78 rfl ?_
      refine xi_if_lt 136 dX10_copy_79 (by decide) (fun h79 => ?_) (fun h79 => ?_)
      · skip
        refine xi_aload_n dX10_copy_136 rfl ?_
        refine xi_bipush (v := (-13)) dX10_copy_137 (by decide) ?_
        refine xi_callV [.int (-13)] [] dX10_copy_139 zX10_host mlX10_293 mm0 rfl rfl rfl rfl rfl (Nat.le_of_ble_eq_true rfl) (Nat.le_of_ble_eq_true rfl) ⟨by decide, by decide⟩ ?_
        refine o_host (x := (-13)) hhr ?_
        show WP _ _ 142 _ [.int (-13)] _ _
        refine xi_iret (v := (-13)) dX10_copy_142 rfl ?_
        simp only [st_copy, ec0, ec2] at h
        rw [if_neg (by omega), if_neg (by omega)] at h
        simp only [ec4, ec1] at h
        exact h _ (RepM_ref hC)
      · skip
        refine xi_iload dX10_copy_82 rfl ?_
        refine xi_if_lt 136 dX10_copy_84 (by decide) (fun h84 => ?_) (fun h84 => ?_)
        · skip
          refine xi_aload_n dX10_copy_136 rfl ?_
          refine xi_bipush (v := (-13)) dX10_copy_137 (by decide) ?_
          refine xi_callV [.int (-13)] [] dX10_copy_139 zX10_host mlX10_293 mm0 rfl rfl rfl rfl rfl (Nat.le_of_ble_eq_true rfl) (Nat.le_of_ble_eq_true rfl) ⟨by decide, by decide⟩ ?_
          refine o_host (x := (-13)) hhr ?_
          show WP _ _ 142 _ [.int (-13)] _ _
          refine xi_iret (v := (-13)) dX10_copy_142 rfl ?_
          simp only [st_copy, ec0, ec2] at h
          rw [if_neg (by omega), if_neg (by omega)] at h
          simp only [ec4, ec1] at h
          exact h _ (RepM_ref hC)
        · skip
          refine xi_iload dX10_copy_87 rfl ?_
          refine xi_aload_n dX10_copy_89 rfl ?_
          refine xi_getR dX10_copy_90 fgX10_83 mm0 rfl ?_
          refine xi_iload_n dX10_copy_93 rfl ?_
          refine xe_iald (v := nI ((tp k0).2.1)) k0 dX10_copy_94 mm19 (by decide) rfl (by omega) ((hNT k0 (by omega)).2.1 (by omega) (by omega)).1 ?_
          refine xn_icmp_gt k4 ((tp k0).2.1) 136 dX10_copy_95 (by decide) rfl rfl (by omega) (by omega) (fun h95 => ?_) (fun h95 => ?_)
          · skip
            refine xi_aload_n dX10_copy_136 rfl ?_
            refine xi_bipush (v := (-13)) dX10_copy_137 (by decide) ?_
            refine xi_callV [.int (-13)] [] dX10_copy_139 zX10_host mlX10_293 mm0 rfl rfl rfl rfl rfl (Nat.le_of_ble_eq_true rfl) (Nat.le_of_ble_eq_true rfl) ⟨by decide, by decide⟩ ?_
            refine o_host (x := (-13)) hhr ?_
            show WP _ _ 142 _ [.int (-13)] _ _
            refine xi_iret (v := (-13)) dX10_copy_142 rfl ?_
            simp only [st_copy, ec0, ec2] at h
            rw [if_neg (by omega), if_neg (by omega)] at h
            simp only [ec4, ec1] at h
            exact h _ (RepM_ref hC)
          · skip
            refine xi_iload dX10_copy_98 rfl ?_
            refine xi_aload_n dX10_copy_100 rfl ?_
            refine xi_getR dX10_copy_101 fgX10_83 mm0 rfl ?_
            refine xi_iload_n dX10_copy_104 rfl ?_
            refine xe_iald (v := nI ((tp k2).2.1)) k2 dX10_copy_105 mm19 (by decide) rfl (by omega) ((hNT k2 (by omega)).2.1 (by omega) (by omega)).1 ?_
            refine xn_icmp_gt k4 ((tp k2).2.1) 136 dX10_copy_106 (by decide) rfl rfl (by omega) (by omega) (fun h106 => ?_) (fun h106 => ?_)
            · skip
              refine xi_aload_n dX10_copy_136 rfl ?_
              refine xi_bipush (v := (-13)) dX10_copy_137 (by decide) ?_
              refine xi_callV [.int (-13)] [] dX10_copy_139 zX10_host mlX10_293 mm0 rfl rfl rfl rfl rfl (Nat.le_of_ble_eq_true rfl) (Nat.le_of_ble_eq_true rfl) ⟨by decide, by decide⟩ ?_
              refine o_host (x := (-13)) hhr ?_
              show WP _ _ 142 _ [.int (-13)] _ _
              refine xi_iret (v := (-13)) dX10_copy_142 rfl ?_
              simp only [st_copy, ec0, ec2] at h
              rw [if_neg (by omega), if_neg (by omega)] at h
              simp only [ec4, ec1] at h
              exact h _ (RepM_ref hC)
            · skip
              refine xi_iload_n dX10_copy_109 rfl ?_
              refine xi_aload_n dX10_copy_110 rfl ?_
              refine xi_getR dX10_copy_111 fgX10_83 mm0 rfl ?_
              refine xi_iload_n dX10_copy_114 rfl ?_
              refine xe_iald (v := nI ((tp k0).2.1)) k0 dX10_copy_115 mm19 (by decide) rfl (by omega) ((hNT k0 (by omega)).2.1 (by omega) (by omega)).1 ?_
              refine xi_iload dX10_copy_116 rfl ?_
              refine xe_isub dX10_copy_118 (v := nI ((tp k0).2.1 - k4)) (pk_sub (by omega)) ?_
              refine xi_icmp_gt 136 dX10_copy_119 (by decide) (fun h119 => ?_) (fun h119 => ?_)
              · skip
                refine xi_aload_n dX10_copy_136 rfl ?_
                refine xi_bipush (v := (-13)) dX10_copy_137 (by decide) ?_
                refine xi_callV [.int (-13)] [] dX10_copy_139 zX10_host mlX10_293 mm0 rfl rfl rfl rfl rfl (Nat.le_of_ble_eq_true rfl) (Nat.le_of_ble_eq_true rfl) ⟨by decide, by decide⟩ ?_
                refine o_host (x := (-13)) hhr ?_
                show WP _ _ 142 _ [.int (-13)] _ _
                refine xi_iret (v := (-13)) dX10_copy_142 rfl ?_
                simp only [st_copy, ec0, ec2] at h
                rw [if_neg (by omega), if_neg (by omega)] at h
                simp only [ec4, ec1] at h
                exact h _ (RepM_ref hC)
              · exact hc1.elim (fun q => absurd q h79) (fun q => absurd (Int32.lt_of_le_of_lt (nI_le (by omega) (by omega)) q) h119)
    rcases xrg_cases x3 (lo := 0) (hi := 80) (by omega) (by omega) with ⟨ec3, hc3⟩ | ⟨k3, hk3, hl3, rfl, ec3⟩
    · skip
      refine xi_iload_n dX10_copy_0 rfl ?_
      refine xi_callS [.int (nI k0)] [] dX10_copy_1 zX10_isTape mlX10_290 rfl rfl rfl (Nat.le_of_ble_eq_true rfl) (Nat.le_of_ble_eq_true rfl) ⟨by decide, by decide⟩ ?_
      refine n_isTpT (k := k0) (by omega) ?_
      show WP _ _ 4 _ [.int (xb true)] _ _
      refine xb_if_eq true 14 dX10_copy_4 (by decide) rfl (fun z => absurd z (by decide)) (fun _ => ?_)
      refine xi_iload_n dX10_copy_7 rfl ?_
      refine xi_callS [.int (nI k2)] [] dX10_copy_8 zX10_isTape mlX10_290 rfl rfl rfl (Nat.le_of_ble_eq_true rfl) (Nat.le_of_ble_eq_true rfl) ⟨by decide, by decide⟩ ?_
      refine n_isTpT (k := k2) (by omega) ?_
      show WP _ _ 11 _ [.int (xb true)] _ _
      refine xb_if_ne true 16 dX10_copy_11 (by decide) rfl (fun _ => ?_) (fun z => absurd z (by decide))
      refine xi_aload_n dX10_copy_16 rfl ?_
      refine xi_getR dX10_copy_17 fgX10_80 mm0 rfl ?_
      refine xi_iload_n dX10_copy_20 rfl ?_
      refine xe_iald (v := nI ((tp k0).1)) k0 dX10_copy_21 mm18 (by decide) rfl (by omega) (hNT k0 (by omega)).1 ?_
      refine xn_if_eq ((tp k0).1) 34 dX10_copy_22 (by decide) rfl (by omega) (fun z => absurd z (by omega)) (fun h22 => ?_)
      refine xi_aload_n dX10_copy_25 rfl ?_
      refine xi_getR dX10_copy_26 fgX10_80 mm0 rfl ?_
      refine xi_iload_n dX10_copy_29 rfl ?_
      refine xe_iald (v := nI ((tp k2).1)) k2 dX10_copy_30 mm18 (by decide) rfl (by omega) (hNT k2 (by omega)).1 ?_
      refine xn_if_ne ((tp k2).1) 41 dX10_copy_31 (by decide) rfl (by omega) (fun h31 => ?_) (fun z => absurd z (by omega))
      refine xat 41 rfl ?_
      refine xi_aload_n dX10_copy_41 rfl ?_
      refine xi_getR dX10_copy_42 fgX10_80 mm0 rfl ?_
      refine xi_iload_n dX10_copy_45 rfl ?_
      refine xe_iald (v := nI ((tp k0).1)) k0 dX10_copy_46 mm18 (by decide) rfl (by omega) (hNT k0 (by omega)).1 ?_
      refine xi_iconst (v := 5) dX10_copy_47 rfl ?_
      refine xn_icmp_eq ((tp k0).1) 5 66 dX10_copy_48 (by decide) rfl rfl (by omega) (by omega) (fun z => absurd z (by omega)) (fun h48 => ?_)
      refine xi_aload_n dX10_copy_51 rfl ?_
      refine xi_getR dX10_copy_52 fgX10_80 mm0 rfl ?_
      refine xi_iload_n dX10_copy_55 rfl ?_
      refine xe_iald (v := nI ((tp k0).1)) k0 dX10_copy_56 mm18 (by decide) rfl (by omega) (hNT k0 (by omega)).1 ?_
      refine xi_aload_n dX10_copy_57 rfl ?_
      refine xi_getR dX10_copy_58 fgX10_80 mm0 rfl ?_
      refine xat 61 rfl ?_
      refine xi_iload_n dX10_copy_61 rfl ?_
      refine xe_iald (v := nI ((tp k2).1)) k2 dX10_copy_62 mm18 (by decide) rfl (by omega) (hNT k2 (by omega)).1 ?_
      refine xn_icmp_eq ((tp k0).1) ((tp k2).1) 73 dX10_copy_63 (by decide) rfl rfl (by omega) (by omega) (fun h63 => ?_) (fun z => absurd z (by omega))
      refine xi_iload dX10_copy_73 rfl ?_
      refine xn_if_lt k4 136 dX10_copy_75 (by decide) rfl (by omega) ?_
      refine xi_iload_n dX10_copy_78 rfl ?_
      refine xn_if_lt k1 136 dX10_copy_79 (by decide) rfl (by omega) ?_
      refine xi_iload dX10_copy_82 rfl ?_
      refine xi_if_lt 136 dX10_copy_84 (by decide) (fun h84 => ?_) (fun h84 => ?_)
      · skip
        refine xi_aload_n dX10_copy_136 rfl ?_
        refine xi_bipush (v := (-13)) dX10_copy_137 (by decide) ?_
        refine xi_callV [.int (-13)] [] dX10_copy_139 zX10_host mlX10_293 mm0 rfl rfl rfl rfl rfl (Nat.le_of_ble_eq_true rfl) (Nat.le_of_ble_eq_true rfl) ⟨by decide, by decide⟩ ?_
        refine o_host (x := (-13)) hhr ?_
        show WP _ _ 142 _ [.int (-13)] _ _
        refine xi_iret (v := (-13)) dX10_copy_142 rfl ?_
        simp only [st_copy, ec0, ec2] at h
        rw [if_neg (by omega), if_neg (by omega)] at h
        simp only [ec4, ec1, ec3] at h
        exact h _ (RepM_ref hC)
      · skip
        refine xi_iload dX10_copy_87 rfl ?_
        refine xi_aload_n dX10_copy_89 rfl ?_
        refine xi_getR dX10_copy_90 fgX10_83 mm0 rfl ?_
        refine xi_iload_n dX10_copy_93 rfl ?_
        refine xe_iald (v := nI ((tp k0).2.1)) k0 dX10_copy_94 mm19 (by decide) rfl (by omega) ((hNT k0 (by omega)).2.1 (by omega) (by omega)).1 ?_
        refine xn_icmp_gt k4 ((tp k0).2.1) 136 dX10_copy_95 (by decide) rfl rfl (by omega) (by omega) (fun h95 => ?_) (fun h95 => ?_)
        · skip
          refine xi_aload_n dX10_copy_136 rfl ?_
          refine xi_bipush (v := (-13)) dX10_copy_137 (by decide) ?_
          refine xi_callV [.int (-13)] [] dX10_copy_139 zX10_host mlX10_293 mm0 rfl rfl rfl rfl rfl (Nat.le_of_ble_eq_true rfl) (Nat.le_of_ble_eq_true rfl) ⟨by decide, by decide⟩ ?_
          refine o_host (x := (-13)) hhr ?_
          show WP _ _ 142 _ [.int (-13)] _ _
          refine xi_iret (v := (-13)) dX10_copy_142 rfl ?_
          simp only [st_copy, ec0, ec2] at h
          rw [if_neg (by omega), if_neg (by omega)] at h
          simp only [ec4, ec1, ec3] at h
          exact h _ (RepM_ref hC)
        · skip
          refine xi_iload dX10_copy_98 rfl ?_
          refine xi_aload_n dX10_copy_100 rfl ?_
          refine xi_getR dX10_copy_101 fgX10_83 mm0 rfl ?_
          refine xi_iload_n dX10_copy_104 rfl ?_
          refine xe_iald (v := nI ((tp k2).2.1)) k2 dX10_copy_105 mm19 (by decide) rfl (by omega) ((hNT k2 (by omega)).2.1 (by omega) (by omega)).1 ?_
          refine xn_icmp_gt k4 ((tp k2).2.1) 136 dX10_copy_106 (by decide) rfl rfl (by omega) (by omega) (fun h106 => ?_) (fun h106 => ?_)
          · skip
            refine xi_aload_n dX10_copy_136 rfl ?_
            refine xi_bipush (v := (-13)) dX10_copy_137 (by decide) ?_
            refine xi_callV [.int (-13)] [] dX10_copy_139 zX10_host mlX10_293 mm0 rfl rfl rfl rfl rfl (Nat.le_of_ble_eq_true rfl) (Nat.le_of_ble_eq_true rfl) ⟨by decide, by decide⟩ ?_
            refine o_host (x := (-13)) hhr ?_
            show WP _ _ 142 _ [.int (-13)] _ _
            refine xi_iret (v := (-13)) dX10_copy_142 rfl ?_
            simp only [st_copy, ec0, ec2] at h
            rw [if_neg (by omega), if_neg (by omega)] at h
            simp only [ec4, ec1, ec3] at h
            exact h _ (RepM_ref hC)
          · skip
            refine xi_iload_n dX10_copy_109 rfl ?_
            refine xi_aload_n dX10_copy_110 rfl ?_
            refine xi_getR dX10_copy_111 fgX10_83 mm0 rfl ?_
            refine xi_iload_n dX10_copy_114 rfl ?_
            refine xe_iald (v := nI ((tp k0).2.1)) k0 dX10_copy_115 mm19 (by decide) rfl (by omega) ((hNT k0 (by omega)).2.1 (by omega) (by omega)).1 ?_
            refine xi_iload dX10_copy_116 rfl ?_
            refine xe_isub dX10_copy_118 (v := nI ((tp k0).2.1 - k4)) (pk_sub (by omega)) ?_
            refine xn_icmp_gt k1 ((tp k0).2.1 - k4) 136 dX10_copy_119 (by decide) rfl rfl (by omega) (by omega) (fun h119 => ?_) (fun h119 => ?_)
            · skip
              refine xi_aload_n dX10_copy_136 rfl ?_
              refine xi_bipush (v := (-13)) dX10_copy_137 (by decide) ?_
              refine xi_callV [.int (-13)] [] dX10_copy_139 zX10_host mlX10_293 mm0 rfl rfl rfl rfl rfl (Nat.le_of_ble_eq_true rfl) (Nat.le_of_ble_eq_true rfl) ⟨by decide, by decide⟩ ?_
              refine o_host (x := (-13)) hhr ?_
              show WP _ _ 142 _ [.int (-13)] _ _
              refine xi_iret (v := (-13)) dX10_copy_142 rfl ?_
              simp only [st_copy, ec0, ec2] at h
              rw [if_neg (by omega), if_neg (by omega)] at h
              simp only [ec4, ec1, ec3] at h
              exact h _ (RepM_ref hC)
            · skip
              refine xi_iload dX10_copy_122 rfl ?_
              refine xi_aload_n dX10_copy_124 rfl ?_
              refine xi_getR dX10_copy_125 fgX10_83 mm0 rfl ?_
              refine xi_iload_n dX10_copy_128 rfl ?_
              refine xe_iald (v := nI ((tp k2).2.1)) k2 dX10_copy_129 mm19 (by decide) rfl (by omega) ((hNT k2 (by omega)).2.1 (by omega) (by omega)).1 ?_
              refine xi_iload dX10_copy_130 rfl ?_
              refine xe_isub dX10_copy_132 (v := nI ((tp k2).2.1 - k4)) (pk_sub (by omega)) ?_
              refine xi_icmp_le 143 dX10_copy_133 (by decide) (fun h133 => ?_) (fun h133 => ?_)
              · exact hc3.elim (fun q => absurd q h84) (fun q => absurd (Int32.lt_of_le_of_lt (nI_le (by omega) (by omega)) q) (Int32.not_lt.mpr h133))
              · skip
                refine xi_aload_n dX10_copy_136 rfl ?_
                refine xi_bipush (v := (-13)) dX10_copy_137 (by decide) ?_
                refine xi_callV [.int (-13)] [] dX10_copy_139 zX10_host mlX10_293 mm0 rfl rfl rfl rfl rfl (Nat.le_of_ble_eq_true rfl) (Nat.le_of_ble_eq_true rfl) ⟨by decide, by decide⟩ ?_
                refine o_host (x := (-13)) hhr ?_
                show WP _ _ 142 _ [.int (-13)] _ _
                refine xi_iret (v := (-13)) dX10_copy_142 rfl ?_
                simp only [st_copy, ec0, ec2] at h
                rw [if_neg (by omega), if_neg (by omega)] at h
                simp only [ec4, ec1, ec3] at h
                exact h _ (RepM_ref hC)
    refine xi_iload_n dX10_copy_0 rfl ?_
    refine xi_callS [.int (nI k0)] [] dX10_copy_1 zX10_isTape mlX10_290 rfl rfl rfl (Nat.le_of_ble_eq_true rfl) (Nat.le_of_ble_eq_true rfl) ⟨by decide, by decide⟩ ?_
    refine n_isTpT (k := k0) (by omega) ?_
    show WP _ _ 4 _ [.int (xb true)] _ _
    refine xb_if_eq true 14 dX10_copy_4 (by decide) rfl (fun z => absurd z (by decide)) (fun _ => ?_)
    refine xi_iload_n dX10_copy_7 rfl ?_
    refine xi_callS [.int (nI k2)] [] dX10_copy_8 zX10_isTape mlX10_290 rfl rfl rfl (Nat.le_of_ble_eq_true rfl) (Nat.le_of_ble_eq_true rfl) ⟨by decide, by decide⟩ ?_
    refine n_isTpT (k := k2) (by omega) ?_
    show WP _ _ 11 _ [.int (xb true)] _ _
    refine xb_if_ne true 16 dX10_copy_11 (by decide) rfl (fun _ => ?_) (fun z => absurd z (by decide))
    refine xi_aload_n dX10_copy_16 rfl ?_
    refine xi_getR dX10_copy_17 fgX10_80 mm0 rfl ?_
    refine xi_iload_n dX10_copy_20 rfl ?_
    refine xe_iald (v := nI ((tp k0).1)) k0 dX10_copy_21 mm18 (by decide) rfl (by omega) (hNT k0 (by omega)).1 ?_
    refine xn_if_eq ((tp k0).1) 34 dX10_copy_22 (by decide) rfl (by omega) (fun z => absurd z (by omega)) (fun h22 => ?_)
    refine xi_aload_n dX10_copy_25 rfl ?_
    refine xi_getR dX10_copy_26 fgX10_80 mm0 rfl ?_
    refine xi_iload_n dX10_copy_29 rfl ?_
    refine xe_iald (v := nI ((tp k2).1)) k2 dX10_copy_30 mm18 (by decide) rfl (by omega) (hNT k2 (by omega)).1 ?_
    refine xn_if_ne ((tp k2).1) 41 dX10_copy_31 (by decide) rfl (by omega) (fun h31 => ?_) (fun z => absurd z (by omega))
    refine xat 41 rfl ?_
    refine xi_aload_n dX10_copy_41 rfl ?_
    refine xi_getR dX10_copy_42 fgX10_80 mm0 rfl ?_
    refine xi_iload_n dX10_copy_45 rfl ?_
    refine xe_iald (v := nI ((tp k0).1)) k0 dX10_copy_46 mm18 (by decide) rfl (by omega) (hNT k0 (by omega)).1 ?_
    refine xi_iconst (v := 5) dX10_copy_47 rfl ?_
    refine xn_icmp_eq ((tp k0).1) 5 66 dX10_copy_48 (by decide) rfl rfl (by omega) (by omega) (fun z => absurd z (by omega)) (fun h48 => ?_)
    refine xi_aload_n dX10_copy_51 rfl ?_
    refine xi_getR dX10_copy_52 fgX10_80 mm0 rfl ?_
    refine xi_iload_n dX10_copy_55 rfl ?_
    refine xe_iald (v := nI ((tp k0).1)) k0 dX10_copy_56 mm18 (by decide) rfl (by omega) (hNT k0 (by omega)).1 ?_
    refine xi_aload_n dX10_copy_57 rfl ?_
    refine xi_getR dX10_copy_58 fgX10_80 mm0 rfl ?_
    refine xat 61 rfl ?_
    refine xi_iload_n dX10_copy_61 rfl ?_
    refine xe_iald (v := nI ((tp k2).1)) k2 dX10_copy_62 mm18 (by decide) rfl (by omega) (hNT k2 (by omega)).1 ?_
    refine xn_icmp_eq ((tp k0).1) ((tp k2).1) 73 dX10_copy_63 (by decide) rfl rfl (by omega) (by omega) (fun h63 => ?_) (fun z => absurd z (by omega))
    refine xi_iload dX10_copy_73 rfl ?_
    refine xn_if_lt k4 136 dX10_copy_75 (by decide) rfl (by omega) ?_
    refine xi_iload_n dX10_copy_78 rfl ?_
    refine xn_if_lt k1 136 dX10_copy_79 (by decide) rfl (by omega) ?_
    refine xi_iload dX10_copy_82 rfl ?_
    refine xn_if_lt k3 136 dX10_copy_84 (by decide) rfl (by omega) ?_
    refine xi_iload dX10_copy_87 rfl ?_
    refine xi_aload_n dX10_copy_89 rfl ?_
    refine xi_getR dX10_copy_90 fgX10_83 mm0 rfl ?_
    refine xat 93 rfl ?_
    refine xi_iload_n dX10_copy_93 rfl ?_
    refine xe_iald (v := nI ((tp k0).2.1)) k0 dX10_copy_94 mm19 (by decide) rfl (by omega) ((hNT k0 (by omega)).2.1 (by omega) (by omega)).1 ?_
    refine xn_icmp_gt k4 ((tp k0).2.1) 136 dX10_copy_95 (by decide) rfl rfl (by omega) (by omega) (fun h95 => ?_) (fun h95 => ?_)
    · skip
      refine xi_aload_n dX10_copy_136 rfl ?_
      refine xi_bipush (v := (-13)) dX10_copy_137 (by decide) ?_
      refine xi_callV [.int (-13)] [] dX10_copy_139 zX10_host mlX10_293 mm0 rfl rfl rfl rfl rfl (Nat.le_of_ble_eq_true rfl) (Nat.le_of_ble_eq_true rfl) ⟨by decide, by decide⟩ ?_
      refine o_host (x := (-13)) hhr ?_
      show WP _ _ 142 _ [.int (-13)] _ _
      refine xi_iret (v := (-13)) dX10_copy_142 rfl ?_
      simp only [st_copy, ec0, ec2] at h
      rw [if_neg (by omega), if_neg (by omega)] at h
      simp only [ec4, ec1, ec3] at h
      rw [if_neg (by omega)] at h
      exact h _ (RepM_ref hC)
    · skip
      refine xi_iload dX10_copy_98 rfl ?_
      refine xi_aload_n dX10_copy_100 rfl ?_
      refine xi_getR dX10_copy_101 fgX10_83 mm0 rfl ?_
      refine xi_iload_n dX10_copy_104 rfl ?_
      refine xe_iald (v := nI ((tp k2).2.1)) k2 dX10_copy_105 mm19 (by decide) rfl (by omega) ((hNT k2 (by omega)).2.1 (by omega) (by omega)).1 ?_
      refine xn_icmp_gt k4 ((tp k2).2.1) 136 dX10_copy_106 (by decide) rfl rfl (by omega) (by omega) (fun h106 => ?_) (fun h106 => ?_)
      · skip
        refine xi_aload_n dX10_copy_136 rfl ?_
        refine xi_bipush (v := (-13)) dX10_copy_137 (by decide) ?_
        refine xi_callV [.int (-13)] [] dX10_copy_139 zX10_host mlX10_293 mm0 rfl rfl rfl rfl rfl (Nat.le_of_ble_eq_true rfl) (Nat.le_of_ble_eq_true rfl) ⟨by decide, by decide⟩ ?_
        refine o_host (x := (-13)) hhr ?_
        show WP _ _ 142 _ [.int (-13)] _ _
        refine xi_iret (v := (-13)) dX10_copy_142 rfl ?_
        simp only [st_copy, ec0, ec2] at h
        rw [if_neg (by omega), if_neg (by omega)] at h
        simp only [ec4, ec1, ec3] at h
        rw [if_neg (by omega)] at h
        exact h _ (RepM_ref hC)
      · skip
        refine xi_iload_n dX10_copy_109 rfl ?_
        refine xi_aload_n dX10_copy_110 rfl ?_
        refine xi_getR dX10_copy_111 fgX10_83 mm0 rfl ?_
        refine xi_iload_n dX10_copy_114 rfl ?_
        refine xe_iald (v := nI ((tp k0).2.1)) k0 dX10_copy_115 mm19 (by decide) rfl (by omega) ((hNT k0 (by omega)).2.1 (by omega) (by omega)).1 ?_
        refine xi_iload dX10_copy_116 rfl ?_
        refine xe_isub dX10_copy_118 (v := nI ((tp k0).2.1 - k4)) (pk_sub (by omega)) ?_
        refine xn_icmp_gt k1 ((tp k0).2.1 - k4) 136 dX10_copy_119 (by decide) rfl rfl (by omega) (by omega) (fun h119 => ?_) (fun h119 => ?_)
        · skip
          refine xi_aload_n dX10_copy_136 rfl ?_
          refine xi_bipush (v := (-13)) dX10_copy_137 (by decide) ?_
          refine xi_callV [.int (-13)] [] dX10_copy_139 zX10_host mlX10_293 mm0 rfl rfl rfl rfl rfl (Nat.le_of_ble_eq_true rfl) (Nat.le_of_ble_eq_true rfl) ⟨by decide, by decide⟩ ?_
          refine o_host (x := (-13)) hhr ?_
          show WP _ _ 142 _ [.int (-13)] _ _
          refine xi_iret (v := (-13)) dX10_copy_142 rfl ?_
          simp only [st_copy, ec0, ec2] at h
          rw [if_neg (by omega), if_neg (by omega)] at h
          simp only [ec4, ec1, ec3] at h
          rw [if_neg (by omega)] at h
          exact h _ (RepM_ref hC)
        · skip
          refine xi_iload dX10_copy_122 rfl ?_
          refine xi_aload_n dX10_copy_124 rfl ?_
          refine xi_getR dX10_copy_125 fgX10_83 mm0 rfl ?_
          refine xi_iload_n dX10_copy_128 rfl ?_
          refine xe_iald (v := nI ((tp k2).2.1)) k2 dX10_copy_129 mm19 (by decide) rfl (by omega) ((hNT k2 (by omega)).2.1 (by omega) (by omega)).1 ?_
          refine xi_iload dX10_copy_130 rfl ?_
          refine xe_isub dX10_copy_132 (v := nI ((tp k2).2.1 - k4)) (pk_sub (by omega)) ?_
          refine xn_icmp_le k3 ((tp k2).2.1 - k4) 143 dX10_copy_133 (by decide) rfl rfl (by omega) (by omega) (fun h133 => ?_) (fun h133 => ?_)
          · skip
            refine xi_iconst (v := 0) dX10_copy_143 rfl ?_
            refine xi_istore (lv' := [some (.ref 0), some (.int (nI k0)), some (.int (nI k1)), some (.int (nI k2)), some (.int (nI k3)), some (.int (nI k4)), some (.int 0)]) dX10_copy_144 (by decide) rfl ?_
            simp only [st_copy, ec0, ec2] at h
            rw [if_neg (by omega), if_neg (by omega)] at h
            simp only [ec4, ec1, ec3] at h
            rw [if_pos ⟨by omega, by omega⟩] at h
            have q0 := (hNT k0 hk0).2.1 (by omega) (by omega)
            have q2 := hNT k2 hk2
            refine xl_cp1 (R := (tp k0).2.2.2.1) hk0 hk2 (by omega) (by omega) k4 0 M (by omega) (fun z hz => by rw [Nat.add_assoc]; exact q0.2 (k1 + z) (by omega)) (fun z hz => by omega) (fun M1 F1 g1 => ?_)
            refine xi_iconst (v := 0) dX10_copy_180 rfl ?_
            refine xi_istore (lv' := [some (.ref 0), some (.int (nI k0)), some (.int (nI k1)), some (.int (nI k2)), some (.int (nI k3)), some (.int (nI k4)), some (.int (nI 0))]) dX10_copy_181 (by decide) rfl ?_
            refine xl_cp2 (R := (tp k0).2.2.2.1) hk0 hk2 (by omega) (by omega) k4 0 M1 (by omega) g1 (fun z hz => by omega) (fun M2 F2 g2 => ?_)
            have F3 : Ft k2 M M2 := ⟨F2.1.trans F1.1, fun a _ => by rw [F2.2.1, F1.2.1], fun a a1 a2 => (F2.2.2.1 a a1).trans (F1.2.2 a a2), fun a k _ => by rw [F2.2.1, F1.2.1], fun z hz => (F2.2.2.2 z (by omega)).trans (by rw [F1.2.2 21 (by decide)])⟩
            have a2 : M2.2.1 = M.2.1 := F2.2.1.trans F1.2.1
            refine h M2 (RepM_tp hX hC hk2 F3 ⟨by rw [a2]; exact q2.1, fun c1 c2 => ⟨by rw [a2]; exact (q2.2.1 c1 c2).1, fun m hm => ?_⟩, fun q => absurd q (show ¬ (tp k2).1 = 5 by omega)⟩)
            show _ = va_cpy (tp k0).2.2.2.1 (tp k2).2.2.2.1 k1 k3 k4 m
            unfold va_cpy
            split
            · rename_i qq
              have := g2 (m - k3) (by omega)
              rw [show 100 * k2 + k3 + (m - k3) = 100 * k2 + m by omega] at this
              exact this
            · rw [F2.2.2.2 _ (by omega), F1.2.2 21 (by decide)]; exact (q2.2.1 c1 c2).2 m hm
          · skip
            refine xi_aload_n dX10_copy_136 rfl ?_
            refine xi_bipush (v := (-13)) dX10_copy_137 (by decide) ?_
            refine xi_callV [.int (-13)] [] dX10_copy_139 zX10_host mlX10_293 mm0 rfl rfl rfl rfl rfl (Nat.le_of_ble_eq_true rfl) (Nat.le_of_ble_eq_true rfl) ⟨by decide, by decide⟩ ?_
            refine o_host (x := (-13)) hhr ?_
            show WP _ _ 142 _ [.int (-13)] _ _
            refine xi_iret (v := (-13)) dX10_copy_142 rfl ?_
            simp only [st_copy, ec0, ec2] at h
            rw [if_neg (by omega), if_neg (by omega)] at h
            simp only [ec4, ec1, ec3] at h
            rw [if_neg (by omega)] at h
            exact h _ (RepM_ref hC)

