theorem mdarkL_mono {G : xG} {S : xS} {p : Nat} : ∀ (f c a : Nat), a ≤ mdarkL G S p c f a
  | 0, c, a => Nat.le_refl _
  | f + 1, c, a => by
    rw [mdarkL]
    split
    · exact Nat.le_trans (Nat.le_succ a) (mdarkL_mono f (c + 1) (a + 1))
    · exact mdarkL_mono f (c + 1) a
theorem mdarkL_pos {G : xG} {S : xS} {p k : Nat} (h1 : ¬ gmap G k = 1) (h2 : mspot G S p k = false) : ∀ (f c a : Nat), c ≤ k → k < c + f → 0 < mdarkL G S p c f a
  | 0, c, a, q1, q2 => by omega
  | f + 1, c, a, q1, q2 => by
    rw [mdarkL]
    by_cases e : c = k
    · subst e
      rw [if_pos ⟨h1, h2⟩]
      exact Nat.lt_of_lt_of_le (Nat.succ_pos a) (mdarkL_mono f (c + 1) (a + 1))
    · split <;> exact mdarkL_pos h1 h2 f (c + 1) _ (by omega) (by omega)
theorem munL_dark {G : xG} {S : xS} {p d : Nat} (hW : wG G) : ∀ (f : Nat) (o : Option Nat) (a : Nat), (∀ k, o = some k → k < gN G) → (0 < a → 0 < mdark G S p) → 0 < munL G S p d f o a → 0 < mdark G S p
  | 0, o, a, ho, ha, h => ha h
  | f + 1, none, a, ho, ha, h => ha h
  | f + 1, some k, a, ho, ha, h => by
    have hk := ho k rfl
    rw [munL] at h
    by_cases hb : mbars G S k = true
    · rw [if_pos hb] at h; exact ha h
    · rw [if_neg hb] at h
      by_cases hs : mspot G S p k = true
      · rw [if_pos hs] at h
        cases e : mstand G S k with
        | some m => rw [e] at h; exact absurd h (Nat.lt_irrefl 0)
        | none => rw [e] at h; exact munL_dark hW f _ a (fun j q => mnext_lt hW hk q) ha h
      · rw [if_neg hs] at h
        refine munL_dark hW f _ (a + 1) (fun j q => mnext_lt hW hk q) (fun _ => mdarkL_pos (k := k) (fun q => hb (by simp [mbars, q])) (by simpa using hs) _ _ _ (by omega) (by omega)) h
theorem nJ_divn {n b : Nat} (h : n < 2 ^ 62) (hb : 0 < b) (hb2 : b < 2 ^ 62) : nJ n / nJ b = nJ (n / b) := by
  apply Int64.toInt_inj.mp
  rw [lg_ldiv_nonneg (by rw [nJ_toInt (by omega)]; omega) (by rw [nJ_toInt (by omega)]; omega), nJ_toInt (by omega), nJ_toInt (Nat.lt_of_le_of_lt (Nat.div_le_self _ _) (by omega)), nJ_toInt (by omega)]
  rfl
theorem nJ_ne0 {b : Nat} (hb : 0 < b) (hb2 : b < 2 ^ 62) : ¬ nJ b = 0 := fun e => by
  have h1 := congrArg Int64.toInt e
  rw [nJ_toInt (by omega)] at h1
  have h2 : (0 : Int64).toInt = 0 := rfl
  omega
set_option maxHeartbeats 4000000 in
set_option maxRecDepth 100000 in
theorem nl_fore1 {G : xG} {S : xS} {M : xM} {s : Nat} {Q : Option Value → xM → Prop} (hW : wG G) (hG : MG G M) (hs : s ≤ 56000) (hS : RM G S M s) (hw : wS G S) {p d t : Nat} (hp : p < gP G) (hl : 0 < sL S p) (hd : d < 4) (ht : t < 500) : ∀ (f i : Nat) (o : Option Nat) (a : Nat), i + f = 7 → (∀ k, o = some k → k < gN G) → a ≤ i → (munL G S p d f o a = 0 → Q none M) → (0 < munL G S p d f o a → WP shM mX10_foresee 112 [some (.ref 0), some (.int (nI s)), some (.int (nI t)), some (.int (nI p)), some (.int (nI d)), some (.int (nI (munL G S p d f o a))), none, none, none, none, none] [] M Q) → WP shM mX10_foresee 27 [some (.ref 0), some (.int (nI s)), some (.int (nI t)), some (.int (nI p)), some (.int (nI d)), some (.int (nI a)), some (.int (xo o)), some (.int (nI i)), none, none, none] [] M Q := by
  obtain ⟨b1, b2, b3, b4, b5, b6, b7, b8, b9, wmap, wlink, wk0, wk1, b10, b11, wword⟩ := id hW
  have hkp := wk0 p hp
  intro f
  induction f with
  | zero =>
    intro i o a hf ho ha h0 h1
    refine xi_iload dX10_foresee_27 rfl ?_
    refine xi_bipush (v := 7) dX10_foresee_29 (by decide) ?_
    refine xn_icmp_ge i 7 106 dX10_foresee_31 (by decide) rfl rfl (by omega) (by omega) (fun h31 => ?_) (fun h31 => ?_)
    · skip
      refine xi_iload dX10_foresee_106 rfl ?_
      refine xn_if_ne a 112 dX10_foresee_108 (by decide) rfl (by omega) (fun h108 => ?_) (fun h108 => ?_)
      · skip
        refine xi_drop [true, true, true, true, true, true, false, false, false, false, false] rfl ?_
        have eU : munL G S p d 0 o a = a := by rw [munL]
        rw [eU] at h1
        exact h1 (by omega)
      · skip
        refine xi_vret dX10_foresee_111 rfl ?_
        exact h0 (by rw [munL]; omega)
    · omega
  | succ f ih =>
    intro i o a hf ho ha h0 h1
    refine xi_iload dX10_foresee_27 rfl ?_
    refine xi_bipush (v := 7) dX10_foresee_29 (by decide) ?_
    refine xn_icmp_ge i 7 106 dX10_foresee_31 (by decide) rfl rfl (by omega) (by omega) (fun h31 => ?_) (fun h31 => ?_)
    · omega
    · skip
      refine xi_iload dX10_foresee_34 rfl ?_
      refine xo_if_lt o 106 dX10_foresee_36 (by decide) rfl (fun k q => by have := ho k q; omega) (fun h36 => ?_) (fun k h36 => ?_)
      · subst h36
        refine xi_iload dX10_foresee_106 rfl ?_
        refine xn_if_ne a 112 dX10_foresee_108 (by decide) rfl (by omega) (fun h108 => ?_) (fun h108 => ?_)
        · skip
          refine xi_drop [true, true, true, true, true, true, false, false, false, false, false] rfl ?_
          have eU : munL G S p d (f + 1) none a = a := by rw [munL]
          rw [eU] at h1
          exact h1 (by omega)
        · skip
          refine xi_vret dX10_foresee_111 rfl ?_
          exact h0 (by rw [munL]; omega)
      · subst h36
        have hk := ho k rfl
        refine xi_aload_n dX10_foresee_39 rfl ?_
        refine xi_iload_n dX10_foresee_40 rfl ?_
        refine xi_iload dX10_foresee_41 rfl ?_
        refine xi_callV [.int (nI s), .int (xo (some k))] [] dX10_foresee_43 zX10_bars mlX10_175 mm0 rfl rfl rfl rfl rfl (Nat.le_of_ble_eq_true rfl) (Nat.le_of_ble_eq_true rfl) ⟨by decide, by decide⟩ ?_
        refine n_bars hW hG hs hS (k := k) (by omega) ?_
        show WP _ _ 46 _ [.int (xb (mbars G S k))] _ _
        refine xb_if_ne (mbars G S k) 106 dX10_foresee_46 (by decide) rfl (fun h46 => ?_) (fun h46 => ?_)
        · skip
          refine xi_iload dX10_foresee_106 rfl ?_
          refine xn_if_ne a 112 dX10_foresee_108 (by decide) rfl (by omega) (fun h108 => ?_) (fun h108 => ?_)
          · skip
            refine xi_drop [true, true, true, true, true, true, false, false, false, false, false] rfl ?_
            have eU : munL G S p d (f + 1) (some k) a = a := by rw [munL, if_pos h46]
            rw [eU] at h1
            exact h1 (by omega)
          · skip
            refine xi_vret dX10_foresee_111 rfl ?_
            exact h0 (by rw [munL, if_pos h46]; omega)
        · skip
          refine xi_aload_n dX10_foresee_49 rfl ?_
          refine xi_iload_n dX10_foresee_50 rfl ?_
          refine xi_iload_n dX10_foresee_51 rfl ?_
          refine xi_iload dX10_foresee_52 rfl ?_
          refine xi_callV [.int (nI s), .int (nI p), .int (xo (some k))] [] dX10_foresee_54 zX10_thingSees mlX10_211 mm0 rfl rfl rfl rfl rfl (Nat.le_of_ble_eq_true rfl) (Nat.le_of_ble_eq_true rfl) ⟨by decide, by decide⟩ ?_
          refine n_tsees hW hG hs hS hw (n := p) (k := k) (by omega) (by omega) (by omega) ?_
          show WP _ _ 57 _ [.int (xb (msee G S (mpos S p) k (mrad G S p)))] _ _
          refine xi_istore (lv' := [some (.ref 0), some (.int (nI s)), some (.int (nI t)), some (.int (nI p)), some (.int (nI d)), some (.int (nI a)), some (.int (xo (some k))), some (.int (nI i)), some (.int (xb (msee G S (mpos S p) k (mrad G S p)))), none, none]) dX10_foresee_57 (by decide) rfl ?_
          refine xi_iload dX10_foresee_59 rfl ?_
          refine xb_if_eq (msee G S (mpos S p) k (mrad G S p)) 75 dX10_foresee_61 (by decide) rfl (fun h61 => ?_) (fun h61 => ?_)
          · skip
            refine xi_iload dX10_foresee_75 rfl ?_
            refine xi_iload dX10_foresee_77 rfl ?_
            refine xb_if_eq (msee G S (mpos S p) k (mrad G S p)) 86 dX10_foresee_79 (by decide) rfl (fun h79 => ?_) (fun h79 => ?_)
            · skip
              refine xi_iconst (v := 1) dX10_foresee_86 rfl ?_
              refine xe_iadd dX10_foresee_87 (v := nI (a + 1)) (nI_add a 1) ?_
              refine xi_istore (lv' := [some (.ref 0), some (.int (nI s)), some (.int (nI t)), some (.int (nI p)), some (.int (nI d)), some (.int (nI (a + 1))), some (.int (xo (some k))), some (.int (nI i)), some (.int (xb (msee G S (mpos S p) k (mrad G S p)))), none, none]) dX10_foresee_88 (by decide) rfl ?_
              refine xi_aload_n dX10_foresee_90 rfl ?_
              refine xi_iload dX10_foresee_91 rfl ?_
              refine xi_iload dX10_foresee_93 rfl ?_
              refine xi_callV [.int (xo (some k)), .int (nI d)] [] dX10_foresee_95 zX10_nextTo mlX10_192 mm0 rfl rfl rfl rfl rfl (Nat.le_of_ble_eq_true rfl) (Nat.le_of_ble_eq_true rfl) ⟨by decide, by decide⟩ ?_
              refine n_next hW hG (k := k) (d := d) (by omega) (by omega) ?_
              show WP _ _ 98 _ [.int (xo (mnext G k d))] _ _
              generalize eo95 : mnext G k d = o95
              refine xi_istore (lv' := [some (.ref 0), some (.int (nI s)), some (.int (nI t)), some (.int (nI p)), some (.int (nI d)), some (.int (nI (a + 1))), some (.int (xo o95)), some (.int (nI i)), some (.int (xb (msee G S (mpos S p) k (mrad G S p)))), none, none]) dX10_foresee_98 (by decide) rfl ?_
              refine xi_iinc (v := nI (i + 1)) (lv' := [some (.ref 0), some (.int (nI s)), some (.int (nI t)), some (.int (nI p)), some (.int (nI d)), some (.int (nI (a + 1))), some (.int (xo o95)), some (.int (nI (i + 1))), some (.int (xb (msee G S (mpos S p) k (mrad G S p)))), none, none]) dX10_foresee_100 rfl (xinc i) (by decide) rfl ?_
              refine xi_goto 27 dX10_foresee_103 (by decide) ?_
              refine xi_drop [true, true, true, true, true, true, true, true, false, false, false] rfl ?_
              have e : munL G S p d (f + 1) (some k) a = munL G S p d f o95 (a + 1) := by rw [munL, if_neg (by simp [h46]), if_neg (by rw [← mspot_r hp hl]; simp [h61]), eo95]
              rw [e] at h0 h1
              exact ih (i + 1) o95 (a + 1) (by omega) (fun j q => mnext_lt hW hk (eo95.trans q)) (by omega) h0 h1
            · rw [h61] at h79; cases h79
          · skip
            refine xi_aload_n dX10_foresee_64 rfl ?_
            refine xi_iload_n dX10_foresee_65 rfl ?_
            refine xi_iload dX10_foresee_66 rfl ?_
            refine xi_callV [.int (nI s), .int (xo (some k))] [] dX10_foresee_68 zX10_standingIn mlX10_156 mm0 rfl rfl rfl rfl rfl (Nat.le_of_ble_eq_true rfl) (Nat.le_of_ble_eq_true rfl) ⟨by decide, by decide⟩ ?_
            refine n_stand hW hG hs hS hw (k := k) ?_
            show WP _ _ 71 _ [.int (xo (mstand G S k))] _ _
            generalize eo68 : mstand G S k = o68
            refine xo_if_lt o68 75 dX10_foresee_71 (by decide) rfl (fun m q => by have := mstand_lt (eo68.trans q); omega) (fun h71 => ?_) (fun m h71 => ?_)
            · subst h71
              refine xi_iload dX10_foresee_75 rfl ?_
              refine xi_iload dX10_foresee_77 rfl ?_
              refine xb_if_eq (msee G S (mpos S p) k (mrad G S p)) 86 dX10_foresee_79 (by decide) rfl (fun h79 => ?_) (fun h79 => ?_)
              · rw [h61] at h79; cases h79
              · skip
                refine xi_iconst (v := 0) dX10_foresee_82 rfl ?_
                refine xi_goto 87 dX10_foresee_83 (by decide) ?_
                refine xe_iadd dX10_foresee_87 (v := nI (a + 0)) (nI_add a 0) ?_
                refine xi_istore (lv' := [some (.ref 0), some (.int (nI s)), some (.int (nI t)), some (.int (nI p)), some (.int (nI d)), some (.int (nI (a + 0))), some (.int (xo (some k))), some (.int (nI i)), some (.int (xb (msee G S (mpos S p) k (mrad G S p)))), none, none]) dX10_foresee_88 (by decide) rfl ?_
                refine xi_aload_n dX10_foresee_90 rfl ?_
                refine xi_iload dX10_foresee_91 rfl ?_
                refine xi_iload dX10_foresee_93 rfl ?_
                refine xi_callV [.int (xo (some k)), .int (nI d)] [] dX10_foresee_95 zX10_nextTo mlX10_192 mm0 rfl rfl rfl rfl rfl (Nat.le_of_ble_eq_true rfl) (Nat.le_of_ble_eq_true rfl) ⟨by decide, by decide⟩ ?_
                refine n_next hW hG (k := k) (d := d) (by omega) (by omega) ?_
                show WP _ _ 98 _ [.int (xo (mnext G k d))] _ _
                generalize eo95 : mnext G k d = o95
                refine xi_istore (lv' := [some (.ref 0), some (.int (nI s)), some (.int (nI t)), some (.int (nI p)), some (.int (nI d)), some (.int (nI (a + 0))), some (.int (xo o95)), some (.int (nI i)), some (.int (xb (msee G S (mpos S p) k (mrad G S p)))), none, none]) dX10_foresee_98 (by decide) rfl ?_
                refine xi_iinc (v := nI (i + 1)) (lv' := [some (.ref 0), some (.int (nI s)), some (.int (nI t)), some (.int (nI p)), some (.int (nI d)), some (.int (nI (a + 0))), some (.int (xo o95)), some (.int (nI (i + 1))), some (.int (xb (msee G S (mpos S p) k (mrad G S p)))), none, none]) dX10_foresee_100 rfl (xinc i) (by decide) rfl ?_
                refine xi_goto 27 dX10_foresee_103 (by decide) ?_
                refine xi_drop [true, true, true, true, true, true, true, true, false, false, false] rfl ?_
                have e : munL G S p d (f + 1) (some k) a = munL G S p d f o95 (a + 0) := by rw [munL, if_neg (by simp [h46]), if_pos (by rw [← mspot_r hp hl]; exact h61), eo68, eo95]; rfl
                rw [e] at h0 h1
                exact ih (i + 1) o95 (a + 0) (by omega) (fun j q => mnext_lt hW hk (eo95.trans q)) (by omega) h0 h1
            · subst h71
              refine xi_vret dX10_foresee_74 rfl ?_
              exact h0 (by rw [munL, if_neg (by simp [h46]), if_pos (by rw [← mspot_r hp hl]; exact h61), eo68])

set_option maxHeartbeats 4000000 in
set_option maxRecDepth 100000 in
theorem nl_fore2 {G : xG} {S : xS} {M : xM} {s : Nat} {Q : Option Value → xM → Prop} (hW : wG G) (hG : MG G M) (hs : s ≤ 56000) (hS : RM G S M s) (hw : wS G S) {p d t : Nat} (hp : p < gP G) (hl : 0 < sL S p) (hd : d < 4) (ht : t < 500) {u : Nat} : ∀ (f n a : Nat), n + f = gT G → a ≤ n → WP shM mX10_foresee 176 [some (.ref 0), some (.int (nI s)), some (.int (nI t)), some (.int (nI p)), some (.int (nI d)), some (.int (nI u)), none, some (.int (nI (mhidL G S p n f a))), none, none, none] [] M Q → WP shM mX10_foresee 118 [some (.ref 0), some (.int (nI s)), some (.int (nI t)), some (.int (nI p)), some (.int (nI d)), some (.int (nI u)), none, some (.int (nI a)), some (.int (nI n)), none, none] [] M Q := by
  obtain ⟨b1, b2, b3, b4, b5, b6, b7, b8, b9, wmap, wlink, wk0, wk1, b10, b11, wword⟩ := id hW
  have hkp := wk0 p hp
  intro f
  induction f with
  | zero =>
    intro n a hf ha h
    refine xi_iload dX10_foresee_118 rfl ?_
    refine xi_aload_n dX10_foresee_120 rfl ?_
    refine xe_getI (v := nI (gT G)) dX10_foresee_121 fgX10_107 mm0 rfl (mg_T hG) ?_
    refine xn_icmp_ge n (gT G) 176 dX10_foresee_124 (by decide) rfl rfl (by omega) (by omega) (fun h124 => ?_) (fun h124 => ?_)
    · skip
      refine xi_drop [true, true, true, true, true, true, false, true, false, false, false] rfl ?_
      exact h
    · omega
  | succ f ih =>
    intro n a hf ha h
    refine xi_iload dX10_foresee_118 rfl ?_
    refine xi_aload_n dX10_foresee_120 rfl ?_
    refine xe_getI (v := nI (gT G)) dX10_foresee_121 fgX10_107 mm0 rfl (mg_T hG) ?_
    refine xn_icmp_ge n (gT G) 176 dX10_foresee_124 (by decide) rfl rfl (by omega) (by omega) (fun h124 => ?_) (fun h124 => ?_)
    · omega
    · skip
      refine xi_iload dX10_foresee_127 rfl ?_
      refine xi_aload_n dX10_foresee_129 rfl ?_
      refine xi_iload_n dX10_foresee_130 rfl ?_
      refine xi_iload dX10_foresee_131 rfl ?_
      refine xi_callV [.int (nI s), .int (nI n)] [.int (nI a)] dX10_foresee_133 zX10_stands mlX10_161 mm0 rfl rfl rfl rfl rfl (Nat.le_of_ble_eq_true rfl) (Nat.le_of_ble_eq_true rfl) ⟨by decide, by decide⟩ ?_
      refine n_stands hW hG hs hS hw (n := n) (by omega) ?_
      show WP _ _ 136 _ [.int (xb (decide (0 < sL S n))), .int (nI a)] _ _
      refine xb_if_eq (decide (0 < sL S n)) 166 dX10_foresee_136 (by decide) rfl (fun h136 => ?_) (fun h136 => ?_)
      · skip
        refine xi_iconst (v := 0) dX10_foresee_166 rfl ?_
        refine xe_iadd dX10_foresee_167 (v := nI (a + 0)) (nI_add a 0) ?_
        refine xi_istore (lv' := [some (.ref 0), some (.int (nI s)), some (.int (nI t)), some (.int (nI p)), some (.int (nI d)), some (.int (nI u)), none, some (.int (nI (a + 0))), some (.int (nI n)), none, none]) dX10_foresee_168 (by decide) rfl ?_
        refine xi_iinc (v := nI (n + 1)) (lv' := [some (.ref 0), some (.int (nI s)), some (.int (nI t)), some (.int (nI p)), some (.int (nI d)), some (.int (nI u)), none, some (.int (nI (a + 0))), some (.int (nI (n + 1))), none, none]) dX10_foresee_170 rfl (xinc n) (by decide) rfl ?_
        refine xi_goto 118 dX10_foresee_173 (by decide) ?_
        have e : mhidL G S p n (f + 1) a = mhidL G S p (n + 1) f (a + 0) := by rw [mhidL, if_neg (fun q => by simp at h136; omega)]; rfl
        rw [e] at h
        exact ih (n + 1) (a + 0) (by omega) (by omega) h
      · skip
        have hkn := hw.2.2.1 n (by omega) (by simpa using h136)
        have hpn := mpos_at hW hw (by omega) hkn
        refine xi_aload_n dX10_foresee_139 rfl ?_
        refine xi_iload_n dX10_foresee_140 rfl ?_
        refine xi_iload_n dX10_foresee_141 rfl ?_
        refine xi_aload_n dX10_foresee_142 rfl ?_
        refine xi_getR dX10_foresee_143 fgX10_39 mm0 rfl ?_
        refine xi_iload_n dX10_foresee_146 rfl ?_
        refine xi_bipush (v := 6) dX10_foresee_147 (by decide) ?_
        refine xi_iload dX10_foresee_149 rfl ?_
        refine xe_imul dX10_foresee_151 (v := nI (6 * n)) (pk_mul 6 n) ?_
        refine xe_iadd dX10_foresee_152 (v := nI (s + (6 * n))) (nI_add s (6 * n)) ?_
        refine xi_iconst (v := 0) dX10_foresee_153 rfl ?_
        refine xat 154 rfl ?_
        refine xe_iadd dX10_foresee_154 (v := nI (s + (6 * n) + 0)) (nI_add (s + (6 * n)) 0) ?_
        refine xe_iald (v := nI (mpos S n)) (s + (6 * n) + 0) dX10_foresee_155 mm5 (by decide) rfl (by omega) ((rmC hS (by omega)).trans hpn.1) ?_
        refine xi_callV [.int (nI s), .int (nI p), .int (nI (mpos S n))] [.int (nI a)] dX10_foresee_156 zX10_thingSees mlX10_211 mm0 rfl rfl rfl rfl rfl (Nat.le_of_ble_eq_true rfl) (Nat.le_of_ble_eq_true rfl) ⟨by decide, by decide⟩ ?_
        refine n_tsees hW hG hs hS hw (n := p) (k := mpos S n) (by omega) (by omega) (by omega) ?_
        show WP _ _ 159 _ [.int (xb (msee G S (mpos S p) (mpos S n) (mrad G S p))), .int (nI a)] _ _
        refine xb_if_ne (msee G S (mpos S p) (mpos S n) (mrad G S p)) 166 dX10_foresee_159 (by decide) rfl (fun h159 => ?_) (fun h159 => ?_)
        · skip
          refine xi_iconst (v := 0) dX10_foresee_166 rfl ?_
          refine xe_iadd dX10_foresee_167 (v := nI (a + 0)) (nI_add a 0) ?_
          refine xi_istore (lv' := [some (.ref 0), some (.int (nI s)), some (.int (nI t)), some (.int (nI p)), some (.int (nI d)), some (.int (nI u)), none, some (.int (nI (a + 0))), some (.int (nI n)), none, none]) dX10_foresee_168 (by decide) rfl ?_
          refine xi_iinc (v := nI (n + 1)) (lv' := [some (.ref 0), some (.int (nI s)), some (.int (nI t)), some (.int (nI p)), some (.int (nI d)), some (.int (nI u)), none, some (.int (nI (a + 0))), some (.int (nI (n + 1))), none, none]) dX10_foresee_170 rfl (xinc n) (by decide) rfl ?_
          refine xi_goto 118 dX10_foresee_173 (by decide) ?_
          have e : mhidL G S p n (f + 1) a = mhidL G S p (n + 1) f (a + 0) := by rw [mhidL, if_neg (fun q => by have z := q.2; rw [← mspot_r hp hl, h159] at z; cases z)]; rfl
          rw [e] at h
          exact ih (n + 1) (a + 0) (by omega) (by omega) h
        · skip
          refine xi_iconst (v := 1) dX10_foresee_162 rfl ?_
          refine xi_goto 167 dX10_foresee_163 (by decide) ?_
          refine xe_iadd dX10_foresee_167 (v := nI (a + 1)) (nI_add a 1) ?_
          refine xi_istore (lv' := [some (.ref 0), some (.int (nI s)), some (.int (nI t)), some (.int (nI p)), some (.int (nI d)), some (.int (nI u)), none, some (.int (nI (a + 1))), some (.int (nI n)), none, none]) dX10_foresee_168 (by decide) rfl ?_
          refine xi_iinc (v := nI (n + 1)) (lv' := [some (.ref 0), some (.int (nI s)), some (.int (nI t)), some (.int (nI p)), some (.int (nI d)), some (.int (nI u)), none, some (.int (nI (a + 1))), some (.int (nI (n + 1))), none, none]) dX10_foresee_170 rfl (xinc n) (by decide) rfl ?_
          refine xi_goto 118 dX10_foresee_173 (by decide) ?_
          have e : mhidL G S p n (f + 1) a = mhidL G S p (n + 1) f (a + 1) := by rw [mhidL, if_pos ⟨by simpa using h136, by rw [← mspot_r hp hl]; exact h159⟩]
          rw [e] at h
          exact ih (n + 1) (a + 1) (by omega) (by omega) h

set_option maxHeartbeats 4000000 in
set_option maxRecDepth 100000 in
theorem nl_fore3 {G : xG} {S : xS} {M : xM} {s : Nat} {Q : Option Value → xM → Prop} (hW : wG G) (hG : MG G M) (hs : s ≤ 56000) (hS : RM G S M s) (hw : wS G S) {p d t : Nat} (hp : p < gP G) (hl : 0 < sL S p) (hd : d < 4) (ht : t < 500) {u z : Nat} : ∀ (f c a : Nat), c + f = gN G → a ≤ c → WP shM mX10_foresee 234 [some (.ref 0), some (.int (nI s)), some (.int (nI t)), some (.int (nI p)), some (.int (nI d)), some (.int (nI u)), none, some (.int (nI z)), some (.int (nI (mdarkL G S p c f a))), none, none] [] M Q → WP shM mX10_foresee 182 [some (.ref 0), some (.int (nI s)), some (.int (nI t)), some (.int (nI p)), some (.int (nI d)), some (.int (nI u)), none, some (.int (nI z)), some (.int (nI a)), some (.int (nI c)), none] [] M Q := by
  obtain ⟨b1, b2, b3, b4, b5, b6, b7, b8, b9, wmap, wlink, wk0, wk1, b10, b11, wword⟩ := id hW
  have hkp := wk0 p hp
  intro f
  induction f with
  | zero =>
    intro c a hf ha h
    refine xi_iload dX10_foresee_182 rfl ?_
    refine xi_aload_n dX10_foresee_184 rfl ?_
    refine xe_getI (v := nI (gw G)) dX10_foresee_185 fgX10_7 mm0 rfl (mg_w hG) ?_
    refine xi_aload_n dX10_foresee_188 rfl ?_
    refine xe_getI (v := nI (gh G)) dX10_foresee_189 fgX10_13 mm0 rfl (mg_h hG) ?_
    refine xe_imul dX10_foresee_192 (v := nI (gN G)) (pk_mul (gw G) (gh G)) ?_
    refine xn_icmp_ge c (gN G) 234 dX10_foresee_193 (by decide) rfl rfl (by omega) (by omega) (fun h193 => ?_) (fun h193 => ?_)
    · skip
      refine xi_drop [true, true, true, true, true, true, false, true, true, false, false] rfl ?_
      exact h
    · omega
  | succ f ih =>
    intro c a hf ha h
    refine xi_iload dX10_foresee_182 rfl ?_
    refine xi_aload_n dX10_foresee_184 rfl ?_
    refine xe_getI (v := nI (gw G)) dX10_foresee_185 fgX10_7 mm0 rfl (mg_w hG) ?_
    refine xi_aload_n dX10_foresee_188 rfl ?_
    refine xe_getI (v := nI (gh G)) dX10_foresee_189 fgX10_13 mm0 rfl (mg_h hG) ?_
    refine xe_imul dX10_foresee_192 (v := nI (gN G)) (pk_mul (gw G) (gh G)) ?_
    refine xn_icmp_ge c (gN G) 234 dX10_foresee_193 (by decide) rfl rfl (by omega) (by omega) (fun h193 => ?_) (fun h193 => ?_)
    · omega
    · skip
      refine xi_iload dX10_foresee_196 rfl ?_
      refine xi_aload_n dX10_foresee_198 rfl ?_
      refine xi_getR dX10_foresee_199 fgX10_19 mm0 rfl ?_
      refine xi_iload dX10_foresee_202 rfl ?_
      have q1 := wmap c (by omega)
      refine xe_iald (v := nI (gmap G c)) c dX10_foresee_204 mm1 (by decide) rfl (by omega) (mg_map hG (by omega)) ?_
      refine xi_iconst (v := 1) dX10_foresee_205 rfl ?_
      refine xn_icmp_eq (gmap G c) 1 224 dX10_foresee_206 (by decide) rfl rfl (by omega) (by omega) (fun h206 => ?_) (fun h206 => ?_)
      · skip
        refine xi_iconst (v := 0) dX10_foresee_224 rfl ?_
        refine xe_iadd dX10_foresee_225 (v := nI (a + 0)) (nI_add a 0) ?_
        refine xi_istore (lv' := [some (.ref 0), some (.int (nI s)), some (.int (nI t)), some (.int (nI p)), some (.int (nI d)), some (.int (nI u)), none, some (.int (nI z)), some (.int (nI (a + 0))), some (.int (nI c)), none]) dX10_foresee_226 (by decide) rfl ?_
        refine xi_iinc (v := nI (c + 1)) (lv' := [some (.ref 0), some (.int (nI s)), some (.int (nI t)), some (.int (nI p)), some (.int (nI d)), some (.int (nI u)), none, some (.int (nI z)), some (.int (nI (a + 0))), some (.int (nI (c + 1))), none]) dX10_foresee_228 rfl (xinc c) (by decide) rfl ?_
        refine xi_goto 182 dX10_foresee_231 (by decide) ?_
        have e : mdarkL G S p c (f + 1) a = mdarkL G S p (c + 1) f (a + 0) := by rw [mdarkL, if_neg (fun q => q.1 h206)]; rfl
        rw [e] at h
        exact ih (c + 1) (a + 0) (by omega) (by omega) h
      · skip
        refine xi_aload_n dX10_foresee_209 rfl ?_
        refine xi_iload_n dX10_foresee_210 rfl ?_
        refine xi_iload_n dX10_foresee_211 rfl ?_
        refine xi_iload dX10_foresee_212 rfl ?_
        refine xi_callV [.int (nI s), .int (nI p), .int (nI c)] [.int (nI a)] dX10_foresee_214 zX10_thingSees mlX10_211 mm0 rfl rfl rfl rfl rfl (Nat.le_of_ble_eq_true rfl) (Nat.le_of_ble_eq_true rfl) ⟨by decide, by decide⟩ ?_
        refine n_tsees hW hG hs hS hw (n := p) (k := c) (by omega) (by omega) (by omega) ?_
        show WP _ _ 217 _ [.int (xb (msee G S (mpos S p) c (mrad G S p))), .int (nI a)] _ _
        refine xb_if_ne (msee G S (mpos S p) c (mrad G S p)) 224 dX10_foresee_217 (by decide) rfl (fun h217 => ?_) (fun h217 => ?_)
        · skip
          refine xi_iconst (v := 0) dX10_foresee_224 rfl ?_
          refine xe_iadd dX10_foresee_225 (v := nI (a + 0)) (nI_add a 0) ?_
          refine xi_istore (lv' := [some (.ref 0), some (.int (nI s)), some (.int (nI t)), some (.int (nI p)), some (.int (nI d)), some (.int (nI u)), none, some (.int (nI z)), some (.int (nI (a + 0))), some (.int (nI c)), none]) dX10_foresee_226 (by decide) rfl ?_
          refine xi_iinc (v := nI (c + 1)) (lv' := [some (.ref 0), some (.int (nI s)), some (.int (nI t)), some (.int (nI p)), some (.int (nI d)), some (.int (nI u)), none, some (.int (nI z)), some (.int (nI (a + 0))), some (.int (nI (c + 1))), none]) dX10_foresee_228 rfl (xinc c) (by decide) rfl ?_
          refine xi_goto 182 dX10_foresee_231 (by decide) ?_
          have e : mdarkL G S p c (f + 1) a = mdarkL G S p (c + 1) f (a + 0) := by rw [mdarkL, if_neg (fun q => by have z := q.2; rw [← mspot_r hp hl, h217] at z; cases z)]; rfl
          rw [e] at h
          exact ih (c + 1) (a + 0) (by omega) (by omega) h
        · skip
          refine xi_iconst (v := 1) dX10_foresee_220 rfl ?_
          refine xi_goto 225 dX10_foresee_221 (by decide) ?_
          refine xe_iadd dX10_foresee_225 (v := nI (a + 1)) (nI_add a 1) ?_
          refine xi_istore (lv' := [some (.ref 0), some (.int (nI s)), some (.int (nI t)), some (.int (nI p)), some (.int (nI d)), some (.int (nI u)), none, some (.int (nI z)), some (.int (nI (a + 1))), some (.int (nI c)), none]) dX10_foresee_226 (by decide) rfl ?_
          refine xi_iinc (v := nI (c + 1)) (lv' := [some (.ref 0), some (.int (nI s)), some (.int (nI t)), some (.int (nI p)), some (.int (nI d)), some (.int (nI u)), none, some (.int (nI z)), some (.int (nI (a + 1))), some (.int (nI (c + 1))), none]) dX10_foresee_228 rfl (xinc c) (by decide) rfl ?_
          refine xi_goto 182 dX10_foresee_231 (by decide) ?_
          have e : mdarkL G S p c (f + 1) a = mdarkL G S p (c + 1) f (a + 1) := by rw [mdarkL, if_pos ⟨h206, by rw [← mspot_r hp hl]; exact h217⟩]
          rw [e] at h
          exact ih (c + 1) (a + 1) (by omega) (by omega) h

set_option maxHeartbeats 4000000 in
set_option maxRecDepth 100000 in
theorem nl_fore4 {G : xG} {S : xS} {M : xM} {s : Nat} {Q : Option Value → xM → Prop} (hW : wG G) (hG : MG G M) (hs : s ≤ 56000) (hS : RM G S M s) (hw : wS G S) {p d t : Nat} (hp : p < gP G) (hl : 0 < sL S p) (hd : d < 4) (ht : t < 500) {H : Nat → Nat} (hH : MH H M) (hHb : H (t * 4 + p) ≤ 16) {o : xO} (hO : MO o M (2 * p)) (hwo : wO o) {risk now : Nat} (hrb : risk ≤ 1048576) (hnb : now ≤ 500) (hri : M.1 0 12 = nI risk) (hno : M.1 0 10 = nI now) {u z b : Nat} (hu : u ≤ 7) (hz : z ≤ 16) (hb : 0 < b) (hb2 : b ≤ 100) (h : ∀ M2, FQ (2 * p) M M2 → MO (madd o (1048576 * min (z * u) b / b) (decide (0 < H (t * 4 + p))) risk now) M2 (2 * p) → Q none M2) : WP shM mX10_foresee 234 [some (.ref 0), some (.int (nI s)), some (.int (nI t)), some (.int (nI p)), some (.int (nI d)), some (.int (nI u)), none, some (.int (nI z)), some (.int (nI b)), none, none] [] M Q := by
  obtain ⟨b1, b2, b3, b4, b5, b6, b7, b8, b9, wmap, wlink, wk0, wk1, b10, b11, wword⟩ := id hW
  have hzu : z * u ≤ 16 * 7 := Nat.mul_le_mul hz hu
  refine xi_iload dX10_foresee_234 rfl ?_
  refine xi_iload dX10_foresee_236 rfl ?_
  refine xe_imul dX10_foresee_238 (v := nI (z * u)) (pk_mul z u) ?_
  refine xi_iload dX10_foresee_239 rfl ?_
  refine xn_icmp_ge (z * u) b 253 dX10_foresee_241 (by decide) rfl rfl (by omega) (by omega) (fun h241 => ?_) (fun h241 => ?_)
  · skip
    refine xi_iload dX10_foresee_253 rfl ?_
    refine xi_i2l dX10_foresee_255 ?_
    refine xtopj (y := nJ b) (nJ_i2l (by omega)) ?_
    refine xi_lstore (lv' := [some (.ref 0), some (.int (nI s)), some (.int (nI t)), some (.int (nI p)), some (.int (nI d)), some (.int (nI u)), none, some (.int (nI z)), some (.int (nI b)), some (.long (nJ b)), none]) dX10_foresee_256 (by decide) rfl ?_
    refine xi_aload_n dX10_foresee_258 rfl ?_
    refine xi_iconst (v := 2) dX10_foresee_259 rfl ?_
    refine xi_iload_n dX10_foresee_260 rfl ?_
    refine xe_imul dX10_foresee_261 (v := nI (2 * p)) (pk_mul 2 p) ?_
    refine xi_ldc2 (v := 1048576) dX10_foresee_262 kcX10_113 ?_
    refine xtopj (y := nJ 1048576) rfl ?_
    refine xi_lload dX10_foresee_265 rfl ?_
    refine xi_lmul dX10_foresee_267 ?_
    refine xtopj (y := nJ (1048576 * b)) (nJ_mul _ _) ?_
    refine xi_iload dX10_foresee_268 rfl ?_
    refine xat 270 rfl ?_
    refine xi_i2l dX10_foresee_270 ?_
    refine xtopj (y := nJ b) (nJ_i2l (by omega)) ?_
    have hcb : 1048576 * b / b ≤ 1048576 := Nat.div_le_of_le_mul (by have : 1048576 * b ≤ 1048576 * b := Nat.mul_le_mul_left _ (by omega); omega)
    have hx2 : 1048576 * b < 2 ^ 62 := by omega
    refine xi_ldiv dX10_foresee_271 (nJ_ne0 hb (by omega)) ?_
    refine xtopj (y := nJ (1048576 * b / b)) (nJ_divn (by omega) hb (by omega)) ?_
    refine xi_aload_n dX10_foresee_272 rfl ?_
    refine xi_getR dX10_foresee_273 fgX10_49 mm0 rfl ?_
    refine xi_iconst (v := 4) dX10_foresee_276 rfl ?_
    refine xi_iload_n dX10_foresee_277 rfl ?_
    refine xe_imul dX10_foresee_278 (v := nI (4 * t)) (pk_mul 4 t) ?_
    refine xi_iload_n dX10_foresee_279 rfl ?_
    refine xe_iadd dX10_foresee_280 (v := nI (4 * t + p)) (nI_add (4 * t) p) ?_
    refine xe_iald (v := nI (H (t * 4 + p))) (4 * t + p) dX10_foresee_281 mm8 (by decide) rfl (by omega) (by rw [Nat.mul_comm 4 t]; exact hH _ (by omega)) ?_
    refine xn_if_le (H (t * 4 + p)) 289 dX10_foresee_282 (by decide) rfl (by omega) (fun h282 => ?_) (fun h282 => ?_)
    · skip
      refine xi_iconst (v := 0) dX10_foresee_289 rfl ?_
      refine xi_callV [.int (nI (2 * p)), .long (nJ (1048576 * b / b)), .int 0] [] dX10_foresee_290 zX10_tried mlX10_266 mm0 rfl rfl rfl rfl rfl (Nat.le_of_ble_eq_true rfl) (Nat.le_of_ble_eq_true rfl) ⟨by decide, by decide⟩ ?_
      refine n_tried (o := o) (k := 2 * p) (c := 1048576 * b / b) (b := false) (by omega) hO hwo hcb hrb hnb hri hno (fun M2 F2 O2 => ?_)
      show WP _ _ 293 _ [] _ _
      refine xi_vret dX10_foresee_293 rfl ?_
      have em : min (z * u) b = b := by omega
      rw [em] at h
      have eb : decide (0 < H (t * 4 + p)) = false := by simp; omega
      rw [eb] at h
      exact h M2 F2 O2
    · skip
      refine xi_iconst (v := 1) dX10_foresee_285 rfl ?_
      refine xi_goto 290 dX10_foresee_286 (by decide) ?_
      refine xi_callV [.int (nI (2 * p)), .long (nJ (1048576 * b / b)), .int 1] [] dX10_foresee_290 zX10_tried mlX10_266 mm0 rfl rfl rfl rfl rfl (Nat.le_of_ble_eq_true rfl) (Nat.le_of_ble_eq_true rfl) ⟨by decide, by decide⟩ ?_
      refine n_tried (o := o) (k := 2 * p) (c := 1048576 * b / b) (b := true) (by omega) hO hwo hcb hrb hnb hri hno (fun M2 F2 O2 => ?_)
      show WP _ _ 293 _ [] _ _
      refine xi_vret dX10_foresee_293 rfl ?_
      have em : min (z * u) b = b := by omega
      rw [em] at h
      have eb : decide (0 < H (t * 4 + p)) = true := by simp; omega
      rw [eb] at h
      exact h M2 F2 O2
  · skip
    refine xi_iload dX10_foresee_244 rfl ?_
    refine xi_iload dX10_foresee_246 rfl ?_
    refine xe_imul dX10_foresee_248 (v := nI (z * u)) (pk_mul z u) ?_
    refine xi_i2l dX10_foresee_249 ?_
    refine xtopj (y := nJ (z * u)) (nJ_i2l (by omega)) ?_
    refine xi_goto 256 dX10_foresee_250 (by decide) ?_
    refine xi_lstore (lv' := [some (.ref 0), some (.int (nI s)), some (.int (nI t)), some (.int (nI p)), some (.int (nI d)), some (.int (nI u)), none, some (.int (nI z)), some (.int (nI b)), some (.long (nJ (z * u))), none]) dX10_foresee_256 (by decide) rfl ?_
    refine xi_aload_n dX10_foresee_258 rfl ?_
    refine xi_iconst (v := 2) dX10_foresee_259 rfl ?_
    refine xi_iload_n dX10_foresee_260 rfl ?_
    refine xe_imul dX10_foresee_261 (v := nI (2 * p)) (pk_mul 2 p) ?_
    refine xi_ldc2 (v := 1048576) dX10_foresee_262 kcX10_113 ?_
    refine xtopj (y := nJ 1048576) rfl ?_
    refine xi_lload dX10_foresee_265 rfl ?_
    refine xi_lmul dX10_foresee_267 ?_
    refine xtopj (y := nJ (1048576 * (z * u))) (nJ_mul _ _) ?_
    refine xi_iload dX10_foresee_268 rfl ?_
    refine xi_i2l dX10_foresee_270 ?_
    refine xtopj (y := nJ b) (nJ_i2l (by omega)) ?_
    have hcb : 1048576 * (z * u) / b ≤ 1048576 := Nat.div_le_of_le_mul (by have : 1048576 * (z * u) ≤ 1048576 * b := Nat.mul_le_mul_left _ (by omega); omega)
    have hx2 : 1048576 * (z * u) < 2 ^ 62 := by omega
    refine xi_ldiv dX10_foresee_271 (nJ_ne0 hb (by omega)) ?_
    refine xtopj (y := nJ (1048576 * (z * u) / b)) (nJ_divn (by omega) hb (by omega)) ?_
    refine xat 272 rfl ?_
    refine xi_aload_n dX10_foresee_272 rfl ?_
    refine xi_getR dX10_foresee_273 fgX10_49 mm0 rfl ?_
    refine xi_iconst (v := 4) dX10_foresee_276 rfl ?_
    refine xi_iload_n dX10_foresee_277 rfl ?_
    refine xe_imul dX10_foresee_278 (v := nI (4 * t)) (pk_mul 4 t) ?_
    refine xi_iload_n dX10_foresee_279 rfl ?_
    refine xe_iadd dX10_foresee_280 (v := nI (4 * t + p)) (nI_add (4 * t) p) ?_
    refine xe_iald (v := nI (H (t * 4 + p))) (4 * t + p) dX10_foresee_281 mm8 (by decide) rfl (by omega) (by rw [Nat.mul_comm 4 t]; exact hH _ (by omega)) ?_
    refine xn_if_le (H (t * 4 + p)) 289 dX10_foresee_282 (by decide) rfl (by omega) (fun h282 => ?_) (fun h282 => ?_)
    · skip
      refine xi_iconst (v := 0) dX10_foresee_289 rfl ?_
      refine xi_callV [.int (nI (2 * p)), .long (nJ (1048576 * (z * u) / b)), .int 0] [] dX10_foresee_290 zX10_tried mlX10_266 mm0 rfl rfl rfl rfl rfl (Nat.le_of_ble_eq_true rfl) (Nat.le_of_ble_eq_true rfl) ⟨by decide, by decide⟩ ?_
      refine n_tried (o := o) (k := 2 * p) (c := 1048576 * (z * u) / b) (b := false) (by omega) hO hwo hcb hrb hnb hri hno (fun M2 F2 O2 => ?_)
      show WP _ _ 293 _ [] _ _
      refine xi_vret dX10_foresee_293 rfl ?_
      have em : min (z * u) b = z * u := by omega
      rw [em] at h
      have eb : decide (0 < H (t * 4 + p)) = false := by simp; omega
      rw [eb] at h
      exact h M2 F2 O2
    · skip
      refine xi_iconst (v := 1) dX10_foresee_285 rfl ?_
      refine xi_goto 290 dX10_foresee_286 (by decide) ?_
      refine xi_callV [.int (nI (2 * p)), .long (nJ (1048576 * (z * u) / b)), .int 1] [] dX10_foresee_290 zX10_tried mlX10_266 mm0 rfl rfl rfl rfl rfl (Nat.le_of_ble_eq_true rfl) (Nat.le_of_ble_eq_true rfl) ⟨by decide, by decide⟩ ?_
      refine n_tried (o := o) (k := 2 * p) (c := 1048576 * (z * u) / b) (b := true) (by omega) hO hwo hcb hrb hnb hri hno (fun M2 F2 O2 => ?_)
      show WP _ _ 293 _ [] _ _
      refine xi_vret dX10_foresee_293 rfl ?_
      have em : min (z * u) b = z * u := by omega
      rw [em] at h
      have eb : decide (0 < H (t * 4 + p)) = true := by simp; omega
      rw [eb] at h
      exact h M2 F2 O2

set_option maxHeartbeats 4000000 in
set_option maxRecDepth 100000 in
theorem n_foresee {G : xG} {S : xS} {M : xM} {s : Nat} {Q : Option Value → xM → Prop} (hW : wG G) (hG : MG G M) (hs : s ≤ 56000) (hS : RM G S M s) (hw : wS G S) {p d t : Nat} (hp : p < gP G) (hl : 0 < sL S p) (hd : d < 4) (ht : t < 500) (hR0 : sR S p = 0) {H : Nat → Nat} (hH : MH H M) (hHb : H (t * 4 + p) ≤ 16) {o : xO} (hO : MO o M (2 * p)) (hwo : wO o) {risk now : Nat} (hrb : risk ≤ 1048576) (hnb : now ≤ 500) (hri : M.1 0 12 = nI risk) (hno : M.1 0 10 = nI now) (h : ∀ M2, FQ (2 * p) M M2 → MO (maddO o (mshotC G S p d) (decide (0 < H (t * 4 + p))) risk now) M2 (2 * p) → Q none M2) : WP shM mX10_foresee 0 [some (.ref 0), some (.int (nI s)), some (.int (nI t)), some (.int (nI p)), some (.int (nI d)), none, none, none, none, none, none] [] M Q := by
  obtain ⟨b1, b2, b3, b4, b5, b6, b7, b8, b9, wmap, wlink, wk0, wk1, b10, b11, wword⟩ := id hW
  have hmp := mpos_P hW hw hp
  refine xi_iconst (v := 0) dX10_foresee_0 rfl ?_
  refine xi_istore (lv' := [some (.ref 0), some (.int (nI s)), some (.int (nI t)), some (.int (nI p)), some (.int (nI d)), some (.int 0), none, none, none, none, none]) dX10_foresee_1 (by decide) rfl ?_
  refine xi_aload_n dX10_foresee_3 rfl ?_
  refine xi_aload_n dX10_foresee_4 rfl ?_
  refine xi_getR dX10_foresee_5 fgX10_39 mm0 rfl ?_
  refine xi_iload_n dX10_foresee_8 rfl ?_
  refine xi_bipush (v := 6) dX10_foresee_9 (by decide) ?_
  refine xi_iload_n dX10_foresee_11 rfl ?_
  refine xe_imul dX10_foresee_12 (v := nI (6 * p)) (pk_mul 6 p) ?_
  refine xe_iadd dX10_foresee_13 (v := nI (s + (6 * p))) (nI_add s (6 * p)) ?_
  refine xi_iconst (v := 0) dX10_foresee_14 rfl ?_
  refine xat 15 rfl ?_
  refine xe_iadd dX10_foresee_15 (v := nI (s + (6 * p) + 0)) (nI_add (s + (6 * p)) 0) ?_
  refine xe_iald (v := nI (mpos S p)) (s + (6 * p) + 0) dX10_foresee_16 mm5 (by decide) rfl (by omega) ((rmC hS (by omega)).trans hmp.1) ?_
  refine xi_iload dX10_foresee_17 rfl ?_
  refine xi_callV [.int (nI (mpos S p)), .int (nI d)] [] dX10_foresee_19 zX10_nextTo mlX10_192 mm0 rfl rfl rfl rfl rfl (Nat.le_of_ble_eq_true rfl) (Nat.le_of_ble_eq_true rfl) ⟨by decide, by decide⟩ ?_
  refine n_next hW hG (k := mpos S p) (d := d) (by omega) (by omega) ?_
  show WP _ _ 22 _ [.int (xo (mnext G (mpos S p) d))] _ _
  generalize eo19 : mnext G (mpos S p) d = o19
  refine xi_istore (lv' := [some (.ref 0), some (.int (nI s)), some (.int (nI t)), some (.int (nI p)), some (.int (nI d)), some (.int 0), some (.int (xo o19)), none, none, none, none]) dX10_foresee_22 (by decide) rfl ?_
  refine xi_iconst (v := 0) dX10_foresee_24 rfl ?_
  refine xi_istore (lv' := [some (.ref 0), some (.int (nI s)), some (.int (nI t)), some (.int (nI p)), some (.int (nI d)), some (.int 0), some (.int (xo o19)), some (.int 0), none, none, none]) dX10_foresee_25 (by decide) rfl ?_
  refine nl_fore1 hW hG hs hS hw hp hl hd ht 7 0 o19 0 (by omega) (fun j q => mnext_lt hW hmp.2 (eo19.trans q)) (by omega) (fun q => ?_) (fun q => ?_)
  · have e : mshotC G S p d = none := by rw [mshotC, if_neg (fun z => by have := z.2.1; rw [munseen, eo19, q] at this; omega)]
    rw [e] at h
    exact h M FQ.rf hO
  · have hdk : 0 < mdark G S p := munL_dark hW 7 o19 0 (fun j z => mnext_lt hW hmp.2 (eo19.trans z)) (fun z => by omega) q
    have eu : munL G S p d 7 o19 0 = munseen G S p d := by rw [munseen, eo19]
    rw [eu] at q ⊢
    have hu := munL_le (G := G) (S := S) (p := p) (d := d) 7 (mnext G (mpos S p) d) 0
    have hu2 : munseen G S p d ≤ 7 := by unfold munseen; omega
    have hz := mhidL_le (G := G) (S := S) (p := p) (gT G) 0 0
    have hz2 : mhid G S p ≤ 16 := by unfold mhid; omega
    have hq := mdarkL_le (G := G) (S := S) (p := p) (gN G) 0 0
    have hq2 : mdark G S p ≤ 100 := by unfold mdark; omega
    have e : mshotC G S p d = some (1048576 * min (mhid G S p * munseen G S p d) (mdark G S p) / mdark G S p) := by rw [mshotC, if_pos ⟨hR0, q, hdk⟩]
    rw [e] at h
    refine xi_iconst (v := 0) dX10_foresee_112 rfl ?_
    refine xi_istore (lv' := [some (.ref 0), some (.int (nI s)), some (.int (nI t)), some (.int (nI p)), some (.int (nI d)), some (.int (nI (munseen G S p d))), none, some (.int (nI 0)), none, none, none]) dX10_foresee_113 (by decide) rfl ?_
    refine xi_iconst (v := 0) dX10_foresee_115 rfl ?_
    refine xi_istore (lv' := [some (.ref 0), some (.int (nI s)), some (.int (nI t)), some (.int (nI p)), some (.int (nI d)), some (.int (nI (munseen G S p d))), none, some (.int (nI 0)), some (.int (nI 0)), none, none]) dX10_foresee_116 (by decide) rfl ?_
    refine nl_fore2 hW hG hs hS hw hp hl hd ht (gT G) 0 0 (by omega) (by omega) ?_
    refine xi_iconst (v := 0) dX10_foresee_176 rfl ?_
    refine xi_istore (lv' := [some (.ref 0), some (.int (nI s)), some (.int (nI t)), some (.int (nI p)), some (.int (nI d)), some (.int (nI (munseen G S p d))), none, some (.int (nI (mhid G S p))), some (.int (nI 0)), none, none]) dX10_foresee_177 (by decide) rfl ?_
    refine xi_iconst (v := 0) dX10_foresee_179 rfl ?_
    refine xi_istore (lv' := [some (.ref 0), some (.int (nI s)), some (.int (nI t)), some (.int (nI p)), some (.int (nI d)), some (.int (nI (munseen G S p d))), none, some (.int (nI (mhid G S p))), some (.int (nI 0)), some (.int (nI 0)), none]) dX10_foresee_180 (by decide) rfl ?_
    refine nl_fore3 hW hG hs hS hw hp hl hd ht (gN G) 0 0 (by omega) (by omega) ?_
    exact nl_fore4 hW hG hs hS hw hp hl hd ht hH hHb hO hwo hrb hnb hri hno hu2 hz2 hdk hq2 h

set_option maxHeartbeats 4000000 in
set_option maxRecDepth 100000 in
theorem n_guess {G : xG} {S : xS} {M : xM} {s : Nat} {Q : Option Value → xM → Prop} (hW : wG G) (hG : MG G M) (hs : s ≤ 56000) (hS : RM G S M s) (hw : wS G S) {p c : Nat} (hp : p < gP G) (hc : c < 1024) {o : xO} (hO : MO o M (2 * p)) (hwo : wO o) {risk now : Nat} (hrb : risk ≤ 1048576) (hnb : now ≤ 500) (hri : M.1 0 12 = nI risk) (hno : M.1 0 10 = nI now) (h : ∀ M2, FQ (2 * p) M M2 → MO (maddO o (mwordC G S p (c / 16 % 4)) (mwn G S p (c / 16 % 4) (c / 64 % 16)) risk now) M2 (2 * p) → Q none M2) : WP shM mX10_guess 0 [some (.ref 0), some (.int (nI s)), some (.int (nI p)), some (.int (nI c)), none] [] M Q := by
  obtain ⟨b1, b2, b3, b4, b5, b6, b7, b8, b9, wmap, wlink, wk0, wk1, b10, b11, wword⟩ := id hW
  have hmp := mpos_P hW hw hp
  have hw64 : c / 64 % 16 = c / 64 := Nat.mod_eq_of_lt (by omega)
  refine xi_aload_n dX10_guess_0 rfl ?_
  refine xi_aload_n dX10_guess_1 rfl ?_
  refine xi_getR dX10_guess_2 fgX10_39 mm0 rfl ?_
  refine xi_iload_n dX10_guess_5 rfl ?_
  refine xi_bipush (v := 6) dX10_guess_6 (by decide) ?_
  refine xi_iload_n dX10_guess_8 rfl ?_
  refine xe_imul dX10_guess_9 (v := nI (6 * p)) (pk_mul 6 p) ?_
  refine xe_iadd dX10_guess_10 (v := nI (s + (6 * p))) (nI_add s (6 * p)) ?_
  refine xi_iconst (v := 0) dX10_guess_11 rfl ?_
  refine xe_iadd dX10_guess_12 (v := nI (s + (6 * p) + 0)) (nI_add (s + (6 * p)) 0) ?_
  refine xe_iald (v := nI (mpos S p)) (s + (6 * p) + 0) dX10_guess_13 mm5 (by decide) rfl (by omega) ((rmC hS (by omega)).trans hmp.1) ?_
  refine xat 14 rfl ?_
  refine xi_iload_n dX10_guess_14 rfl ?_
  refine xi_bipush (v := 16) dX10_guess_15 (by decide) ?_
  refine xe_idiv dX10_guess_17 (by decide) (v := nI (c / 16)) (pk_div (d := 16) (by omega) (by omega) (by omega)) ?_
  refine xi_iconst (v := 4) dX10_guess_18 rfl ?_
  refine xe_irem dX10_guess_19 (by decide) (v := nI (c / 16 % 4)) (pk_rem (d := 4) (by omega) (by omega) (by omega)) ?_
  refine xi_callV [.int (nI (mpos S p)), .int (nI (c / 16 % 4))] [] dX10_guess_20 zX10_nextTo mlX10_192 mm0 rfl rfl rfl rfl rfl (Nat.le_of_ble_eq_true rfl) (Nat.le_of_ble_eq_true rfl) ⟨by decide, by decide⟩ ?_
  refine n_next hW hG (k := mpos S p) (d := c / 16 % 4) (by omega) (by omega) ?_
  show WP _ _ 23 _ [.int (xo (mnext G (mpos S p) (c / 16 % 4)))] _ _
  generalize eo20 : mnext G (mpos S p) (c / 16 % 4) = o20
  refine xi_istore (lv' := [some (.ref 0), some (.int (nI s)), some (.int (nI p)), some (.int (nI c)), some (.int (xo o20))]) dX10_guess_23 (by decide) rfl ?_
  refine xi_iload dX10_guess_25 rfl ?_
  refine xo_if_lt o20 98 dX10_guess_27 (by decide) rfl (fun j z => by have := mnext_lt hW hmp.2 (eo20.trans z); omega) (fun h27 => ?_) (fun k h27 => ?_)
  · subst h27
    refine xi_vret dX10_guess_98 rfl ?_
    have e : mwordC G S p (c / 16 % 4) = none := by rw [mwordC, eo20]
    rw [e] at h
    exact h M FQ.rf hO
  · subst h27
    have hk := mnext_lt hW hmp.2 eo20
    refine xi_aload_n dX10_guess_30 rfl ?_
    refine xi_iload_n dX10_guess_31 rfl ?_
    refine xi_iload dX10_guess_32 rfl ?_
    refine xi_callV [.int (nI s), .int (xo (some k))] [] dX10_guess_34 zX10_isShut mlX10_165 mm0 rfl rfl rfl rfl rfl (Nat.le_of_ble_eq_true rfl) (Nat.le_of_ble_eq_true rfl) ⟨by decide, by decide⟩ ?_
    refine n_shut hW hG hs hS (k := k) (by omega) ?_
    show WP _ _ 37 _ [.int (xb (mshut G S k))] _ _
    refine xb_if_eq (mshut G S k) 98 dX10_guess_37 (by decide) rfl (fun h37 => ?_) (fun h37 => ?_)
    · skip
      refine xi_vret dX10_guess_98 rfl ?_
      have e : mwordC G S p (c / 16 % 4) = none := by rw [mwordC, eo20]; exact if_neg (fun q => by rw [h37] at q; cases q.1)
      rw [e] at h
      exact h M FQ.rf hO
    · skip
      have hm2 : gmap G k = 2 := by have := h37; simp [mshut] at this; exact this.1
      refine xi_aload_n dX10_guess_40 rfl ?_
      refine xi_getR dX10_guess_41 fgX10_39 mm0 rfl ?_
      refine xi_iload_n dX10_guess_44 rfl ?_
      refine xi_bipush (v := 108) dX10_guess_45 (by decide) ?_
      refine xe_iadd dX10_guess_47 (v := nI (s + 108)) (nI_add s 108) ?_
      refine xi_iload_n dX10_guess_48 rfl ?_
      refine xe_iadd dX10_guess_49 (v := nI (s + 108 + p)) (nI_add (s + 108) p) ?_
      refine xe_iald (v := sK S p) (s + 108 + p) dX10_guess_50 mm5 (by decide) rfl (by omega) (rmK hS (by omega)) ?_
      refine xi_aload_n dX10_guess_51 rfl ?_
      refine xi_getR dX10_guess_52 fgX10_23 mm0 rfl ?_
      refine xi_iload dX10_guess_55 rfl ?_
      refine xat 57 rfl ?_
      have q2 := wlink k (by omega) (by omega)
      refine xe_iald (v := nI (glink G k)) k dX10_guess_57 mm2 (by decide) rfl (by omega) (mg_link hG (by omega) (by omega)) ?_
      refine xi_ishr dX10_guess_58 ?_
      refine xi_iconst (v := 1) dX10_guess_59 rfl ?_
      refine xi_iand dX10_guess_60 ?_
      refine xi_if_ne 98 dX10_guess_61 (by decide) (fun h61 => ?_) (fun h61 => ?_)
      · skip
        refine xi_vret dX10_guess_98 rfl ?_
        have e : mwordC G S p (c / 16 % 4) = none := by rw [mwordC, eo20]; exact if_neg (fun q => h61 q.2)
        rw [e] at h
        exact h M FQ.rf hO
      · skip
        refine xi_aload_n dX10_guess_64 rfl ?_
        refine xi_iconst (v := 2) dX10_guess_65 rfl ?_
        refine xi_iload_n dX10_guess_66 rfl ?_
        refine xe_imul dX10_guess_67 (v := nI (2 * p)) (pk_mul 2 p) ?_
        refine xi_ldc2 (v := 65536) dX10_guess_68 kcX10_270 ?_
        refine xtopj (y := nJ 65536) rfl ?_
        refine xi_aload_n dX10_guess_71 rfl ?_
        refine xi_getR dX10_guess_72 fgX10_26 mm0 rfl ?_
        refine xi_aload_n dX10_guess_75 rfl ?_
        refine xi_getR dX10_guess_76 fgX10_23 mm0 rfl ?_
        refine xi_iload dX10_guess_79 rfl ?_
        have q3 := wlink k (by omega) (by omega)
        refine xe_iald (v := nI (glink G k)) k dX10_guess_81 mm2 (by decide) rfl (by omega) (mg_link hG (by omega) (by omega)) ?_
        refine xat 82 rfl ?_
        have q4 := wword (glink G k) (by omega)
        refine xe_iald (v := nI (gword G (glink G k))) (glink G k) dX10_guess_82 mm3 (by decide) rfl (by omega) (mg_word hG (by omega)) ?_
        refine xi_iload_n dX10_guess_83 rfl ?_
        refine xi_bipush (v := 64) dX10_guess_84 (by decide) ?_
        refine xe_idiv dX10_guess_86 (by decide) (v := nI (c / 64)) (pk_div (d := 64) (by omega) (by omega) (by omega)) ?_
        refine xn_icmp_ne (gword G (glink G k)) (c / 64) 94 dX10_guess_87 (by decide) rfl rfl (by omega) (by omega) (fun h87 => ?_) (fun h87 => ?_)
        · skip
          refine xi_iconst (v := 0) dX10_guess_94 rfl ?_
          refine xi_callV [.int (nI (2 * p)), .long (nJ 65536), .int 0] [] dX10_guess_95 zX10_tried mlX10_266 mm0 rfl rfl rfl rfl rfl (Nat.le_of_ble_eq_true rfl) (Nat.le_of_ble_eq_true rfl) ⟨by decide, by decide⟩ ?_
          refine n_tried (o := o) (k := 2 * p) (c := 65536) (b := false) (by omega) hO hwo (by decide) hrb hnb hri hno (fun M2 F2 O2 => ?_)
          show WP _ _ 98 _ [] _ _
          refine xi_vret dX10_guess_98 rfl ?_
          have e : mwordC G S p (c / 16 % 4) = some 65536 := by rw [mwordC, eo20]; exact if_pos ⟨h37, h61⟩
          have e2 : mwn G S p (c / 16 % 4) (c / 64 % 16) = false := by
            have h37b : mshut G S k = true := h37
            rw [mwn, eo20]
            simp [h37b, h87, hw64]
          rw [e, e2] at h
          exact h M2 F2 O2
        · skip
          refine xi_iconst (v := 1) dX10_guess_90 rfl ?_
          refine xi_goto 95 dX10_guess_91 (by decide) ?_
          refine xi_callV [.int (nI (2 * p)), .long (nJ 65536), .int 1] [] dX10_guess_95 zX10_tried mlX10_266 mm0 rfl rfl rfl rfl rfl (Nat.le_of_ble_eq_true rfl) (Nat.le_of_ble_eq_true rfl) ⟨by decide, by decide⟩ ?_
          refine n_tried (o := o) (k := 2 * p) (c := 65536) (b := true) (by omega) hO hwo (by decide) hrb hnb hri hno (fun M2 F2 O2 => ?_)
          show WP _ _ 98 _ [] _ _
          refine xi_vret dX10_guess_98 rfl ?_
          have e : mwordC G S p (c / 16 % 4) = some 65536 := by rw [mwordC, eo20]; exact if_pos ⟨h37, h61⟩
          have e2 : mwn G S p (c / 16 % 4) (c / 64 % 16) = true := by
            have h37b : mshut G S k = true := h37
            rw [mwn, eo20]
            simp [h37b, h87, hw64]
          rw [e, e2] at h
          exact h M2 F2 O2

