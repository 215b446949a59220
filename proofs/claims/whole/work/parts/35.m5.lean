theorem mdx_sym {G : xG} {a b : Nat} : (mdx G b a).natAbs = (mdx G a b).natAbs := by
  unfold mdx
  generalize a % gw G = x
  generalize b % gw G = y
  omega
theorem mdy_sym {G : xG} {a b : Nat} : (mdy G b a).natAbs = (mdy G a b).natAbs := by
  unfold mdy
  generalize a / gw G = x
  generalize b / gw G = y
  omega
/-- one hunt: bitten?, and the state -/
def mhunt1 (G : xG) (S : xS) (n : Nat) : Bool × xS := match mprey G S n with
  | none => (false, S)
  | some q => if mdist G S n q = 1 then (true, mhurt G S q 1) else (false, menter G S n (mtow G S n q))
set_option maxHeartbeats 4000000 in
set_option maxRecDepth 100000 in
theorem n_does {G : xG} {S : xS} {M : xM} {s : Nat} {Q : Option Value → xM → Prop} (hW : wG G) (hG : MG G M) (hs : s ≤ 56000) (hS : RM G S M s) (hw : wS G S) {p c : Nat} (hp : p < gP G) (hc : c < 1024) (h : ∀ M2, Fm s M M2 → RM G (mact G S p c).2 M2 s → Q (some (.int (nI (mact G S p c).1))) M2) : WP shM mX10_does 0 [some (.ref 0), some (.int (nI s)), some (.int (nI p)), some (.int (nI c)), none, none, none] [] M Q := by
  obtain ⟨b1, b2, b3, b4, b5, b6, b7, b8, b9, wmap, wlink, wk0, wk1, b10, b11, wword⟩ := id hW
  have hmp := mpos_P hW hw hp
  have hw64 : c / 64 % 16 = c / 64 := Nat.mod_eq_of_lt (by omega)
  refine xi_iload_n dX10_does_0 rfl ?_
  refine xi_bipush (v := 6) dX10_does_1 (by decide) ?_
  refine xi_iload_n dX10_does_3 rfl ?_
  refine xe_imul dX10_does_4 (v := nI (6 * p)) (pk_mul 6 p) ?_
  refine xe_iadd dX10_does_5 (v := nI (s + (6 * p))) (nI_add s (6 * p)) ?_
  refine xi_istore (lv' := [some (.ref 0), some (.int (nI s)), some (.int (nI p)), some (.int (nI c)), some (.int (nI (s + (6 * p)))), none, none]) dX10_does_6 (by decide) rfl ?_
  refine xi_iload_n dX10_does_8 rfl ?_
  refine xi_bipush (v := 16) dX10_does_9 (by decide) ?_
  refine xe_idiv dX10_does_11 (by decide) (v := nI (c / 16)) (pk_div (d := 16) (by omega) (by omega) (by omega)) ?_
  refine xi_iconst (v := 4) dX10_does_12 rfl ?_
  refine xe_irem dX10_does_13 (by decide) (v := nI (c / 16 % 4)) (pk_rem (d := 4) (by omega) (by omega) (by omega)) ?_
  refine xat 14 rfl ?_
  refine xi_istore (lv' := [some (.ref 0), some (.int (nI s)), some (.int (nI p)), some (.int (nI c)), some (.int (nI (s + (6 * p)))), some (.int (nI (c / 16 % 4))), none]) dX10_does_14 (by decide) rfl ?_
  refine xi_aload_n dX10_does_16 rfl ?_
  refine xi_aload_n dX10_does_17 rfl ?_
  refine xi_getR dX10_does_18 fgX10_39 mm0 rfl ?_
  refine xi_iload dX10_does_21 rfl ?_
  refine xi_iconst (v := 0) dX10_does_23 rfl ?_
  refine xe_iadd dX10_does_24 (v := nI (s + (6 * p) + 0)) (nI_add (s + (6 * p)) 0) ?_
  refine xe_iald (v := nI (mpos S p)) (s + (6 * p) + 0) dX10_does_25 mm5 (by decide) rfl (by omega) ((rmC hS (by omega)).trans hmp.1) ?_
  refine xi_iload dX10_does_26 rfl ?_
  refine xi_callV [.int (nI (mpos S p)), .int (nI (c / 16 % 4))] [] dX10_does_28 zX10_nextTo mlX10_192 mm0 rfl rfl rfl rfl rfl (Nat.le_of_ble_eq_true rfl) (Nat.le_of_ble_eq_true rfl) ⟨by decide, by decide⟩ ?_
  refine n_next hW hG (k := mpos S p) (d := c / 16 % 4) (by omega) (by omega) ?_
  show WP _ _ 31 _ [.int (xo (mnext G (mpos S p) (c / 16 % 4)))] _ _
  generalize eo28 : mnext G (mpos S p) (c / 16 % 4) = o28
  refine xi_istore (lv' := [some (.ref 0), some (.int (nI s)), some (.int (nI p)), some (.int (nI c)), some (.int (nI (s + (6 * p)))), some (.int (nI (c / 16 % 4))), some (.int (xo o28))]) dX10_does_31 (by decide) rfl ?_
  refine xi_iload_n dX10_does_33 rfl ?_
  refine xi_bipush (v := 16) dX10_does_34 (by decide) ?_
  refine xe_irem dX10_does_36 (by decide) (v := nI (c % 16)) (pk_rem (d := 16) (by omega) (by omega) (by omega)) ?_
  by_cases h37_1 : c % 16 = 1
  · refine xi_tableIn 76 0 dX10_does_37 (by rw [nI_toInt (by omega), h37_1]; rfl) (by decide) rfl (by decide) ?_
    refine xi_aload_n dX10_does_76 rfl ?_
    refine xi_getR dX10_does_77 fgX10_39 mm0 rfl ?_
    refine xi_iload dX10_does_80 rfl ?_
    refine xi_iconst (v := 2) dX10_does_82 rfl ?_
    refine xe_iadd dX10_does_83 (v := nI (s + (6 * p) + 2)) (nI_add (s + (6 * p)) 2) ?_
    refine xi_iload dX10_does_84 rfl ?_
    refine xe_iast (s + (6 * p) + 2) dX10_does_86 mm5 (by decide) rfl (by omega) ?_
    generalize eM1 : (xa M 5 (upd (M.2.1 5) (s + (6 * p) + 2) (nI (c / 16 % 4)))) = M1
    have hS1 : RM G (uF S p (nI (c / 16 % 4))) M1 s := by rw [← eM1]; exact rmuF hW hS (by omega) (nI (c / 16 % 4))
    have hF1 : Fm s M M1 := by rw [← eM1]; exact Fm.xa (by omega) (by omega)
    have hG1 : MG G M1 := MG.fm hG hF1
    have hw1 : wS G (uF S p (nI (c / 16 % 4))) := (wS_uF hw)
    refine xi_aload_n dX10_does_87 rfl ?_
    refine xi_iload_n dX10_does_88 rfl ?_
    refine xi_iload dX10_does_89 rfl ?_
    refine xi_callV [.int (nI s), .int (xo o28)] [] dX10_does_91 zX10_isFree mlX10_195 mm0 rfl rfl rfl rfl rfl (Nat.le_of_ble_eq_true rfl) (Nat.le_of_ble_eq_true rfl) ⟨by decide, by decide⟩ ?_
    refine n_free hW hG1 hs hS1 hw1 (o := o28) (fun j z => mnext_lt hW hmp.2 (eo28.trans z)) ?_
    show WP _ _ 94 _ [.int (xb (mfree G (uF S p (nI (c / 16 % 4))) o28))] _ _
    refine xb_if_eq (mfree G (uF S p (nI (c / 16 % 4))) o28) 105 dX10_does_94 (by decide) rfl (fun h94 => ?_) (fun h94 => ?_)
    · skip
      refine xi_iconst (v := 0) dX10_does_105 rfl ?_
      refine xi_iret (v := 0) dX10_does_106 rfl ?_
      have e : mact G S p c = (0, (uF S p (nI (c / 16 % 4)))) := by
        unfold mact
        rw [h37_1]
        rw [eo28]
        show (0, menter G (uF S p (nI (c / 16 % 4))) p o28) = _
        have : menter G (uF S p (nI (c / 16 % 4))) p o28 = uF S p (nI (c / 16 % 4)) := by cases o28 <;> simp [menter, h94]
        rw [this]
      rw [e] at h
      exact h M1 hF1 hS1
    · skip
      obtain ⟨k, rfl⟩ : ∃ k, o28 = some k := by
        cases o28 with
        | none => simp [mfree] at h94
        | some k => exact ⟨k, rfl⟩
      show WP _ _ 97 [some (.ref 0), some (.int (nI s)), some (.int (nI p)), some (.int (nI c)), some (.int (nI (s + (6 * p)))), some (.int (nI (c / 16 % 4))), some (.int (nI k))] [] _ _
      have hk := mnext_lt hW hmp.2 eo28
      refine xi_aload_n dX10_does_97 rfl ?_
      refine xi_iload_n dX10_does_98 rfl ?_
      refine xi_iload_n dX10_does_99 rfl ?_
      refine xi_iload dX10_does_100 rfl ?_
      refine xi_callV [.int (nI s), .int (nI p), .int (nI k)] [] dX10_does_102 zX10_goTo mlX10_198 mm0 rfl rfl rfl rfl rfl (Nat.le_of_ble_eq_true rfl) (Nat.le_of_ble_eq_true rfl) ⟨by decide, by decide⟩ ?_
      refine n_go hW hG1 hs hS1 hw1 (n := p) (k := k) (by omega) (by omega) (fun M2 hF2 hS2 => ?_)
      have hG2 : MG G M2 := MG.fm hG1 hF2
      have hw2 : wS G (mgo G (uF S p (nI (c / 16 % 4))) p k) := wS_go hw1 (by omega) (by omega)
      show WP _ _ 105 _ [] _ _
      refine xi_iconst (v := 0) dX10_does_105 rfl ?_
      refine xi_iret (v := 0) dX10_does_106 rfl ?_
      have e : mact G S p c = (0, (mgo G (uF S p (nI (c / 16 % 4))) p k)) := by
        unfold mact
        rw [h37_1]
        rw [eo28]
        show (0, menter G (uF S p (nI (c / 16 % 4))) p (some k)) = _
        rw [menter, if_pos h94]
      rw [e] at h
      exact h M2 (hF1.tr hF2) hS2
  by_cases h37_2 : c % 16 = 2
  · refine xi_tableIn 107 1 dX10_does_37 (by rw [nI_toInt (by omega), h37_2]; rfl) (by decide) rfl (by decide) ?_
    refine xi_aload_n dX10_does_107 rfl ?_
    refine xi_iload_n dX10_does_108 rfl ?_
    refine xi_iload_n dX10_does_109 rfl ?_
    refine xi_iload dX10_does_110 rfl ?_
    refine xi_callV [.int (nI s), .int (nI p), .int (nI (c / 16 % 4))] [] dX10_does_112 zX10_shoot mlX10_201 mm0 rfl rfl rfl rfl rfl (Nat.le_of_ble_eq_true rfl) (Nat.le_of_ble_eq_true rfl) ⟨by decide, by decide⟩ ?_
    refine n_shoot hW hG hs hS hw (p := p) (d := c / 16 % 4) (by omega) (by omega) (fun M3 hF3 hS3 => ?_)
    have hG3 : MG G M3 := MG.fm hG hF3
    show WP _ _ 115 _ [.int (nI (mhit (mshoot G S p (c / 16 % 4)).1))] _ _
    refine xi_iret (v := nI (mhit (mshoot G S p (c / 16 % 4)).1)) dX10_does_115 rfl ?_
    have e : mact G S p c = (mhit (mshoot G S p (c / 16 % 4)).1, ((mshoot G S p (c / 16 % 4)).2)) := by
      unfold mact
      rw [h37_2]
      rfl
    rw [e] at h
    exact h M3 hF3 hS3
  by_cases h37_3 : c % 16 = 3
  · refine xi_tableIn 116 2 dX10_does_37 (by rw [nI_toInt (by omega), h37_3]; rfl) (by decide) rfl (by decide) ?_
    refine xi_aload_n dX10_does_116 rfl ?_
    refine xi_getR dX10_does_117 fgX10_39 mm0 rfl ?_
    refine xi_iload dX10_does_120 rfl ?_
    refine xi_iconst (v := 2) dX10_does_122 rfl ?_
    refine xe_iadd dX10_does_123 (v := nI (s + (6 * p) + 2)) (nI_add (s + (6 * p)) 2) ?_
    refine xi_iload dX10_does_124 rfl ?_
    refine xe_iast (s + (6 * p) + 2) dX10_does_126 mm5 (by decide) rfl (by omega) ?_
    generalize eM4 : (xa M 5 (upd (M.2.1 5) (s + (6 * p) + 2) (nI (c / 16 % 4)))) = M4
    have hS4 : RM G (uF S p (nI (c / 16 % 4))) M4 s := by rw [← eM4]; exact rmuF hW hS (by omega) (nI (c / 16 % 4))
    have hF4 : Fm s M M4 := by rw [← eM4]; exact Fm.xa (by omega) (by omega)
    have hG4 : MG G M4 := MG.fm hG hF4
    have hw4 : wS G (uF S p (nI (c / 16 % 4))) := (wS_uF hw)
    refine xi_iload dX10_does_127 rfl ?_
    refine xo_if_lt o28 179 dX10_does_129 (by decide) rfl (fun j z => by have := mnext_lt hW hmp.2 (eo28.trans z); omega) (fun h129 => ?_) (fun k h129 => ?_)
    · subst h129
      refine xi_iconst (v := 0) dX10_does_179 rfl ?_
      refine xi_iret (v := 0) dX10_does_180 rfl ?_
      have e : mact G S p c = (0, (uF S p (nI (c / 16 % 4)))) := by
        unfold mact
        rw [h37_3]
        show (0, mtry G S p (c / 16 % 4) (c / 64 % 16)) = _
        rw [mtry, eo28]
      rw [e] at h
      exact h M4 hF4 hS4
    · subst h129
      have hk := mnext_lt hW hmp.2 eo28
      refine xi_aload_n dX10_does_132 rfl ?_
      refine xi_iload_n dX10_does_133 rfl ?_
      refine xi_iload dX10_does_134 rfl ?_
      refine xi_callV [.int (nI s), .int (xo (some k))] [] dX10_does_136 zX10_isShut mlX10_165 mm0 rfl rfl rfl rfl rfl (Nat.le_of_ble_eq_true rfl) (Nat.le_of_ble_eq_true rfl) ⟨by decide, by decide⟩ ?_
      refine n_shut hW hG4 hs hS4 (k := k) (by omega) ?_
      show WP _ _ 139 _ [.int (xb (mshut G (uF S p (nI (c / 16 % 4))) k))] _ _
      refine xb_if_eq (mshut G (uF S p (nI (c / 16 % 4))) k) 179 dX10_does_139 (by decide) rfl (fun h139 => ?_) (fun h139 => ?_)
      · skip
        refine xi_iconst (v := 0) dX10_does_179 rfl ?_
        refine xi_iret (v := 0) dX10_does_180 rfl ?_
        have e : mact G S p c = (0, (uF S p (nI (c / 16 % 4)))) := by
          unfold mact
          rw [h37_3]
          show (0, mtry G S p (c / 16 % 4) (c / 64 % 16)) = _
          rw [mtry, eo28]
          have hq : ¬ mwn G S p (c / 16 % 4) (c / 64 % 16) = true := by
            have h139b : mshut G S k = false := h139
            rw [mwn, eo28]
            simp [h139b]
          exact congrArg (Prod.mk 0) (if_neg hq)
        rw [e] at h
        exact h M4 hF4 hS4
      · skip
        have hm2 : gmap G k = 2 := by have := h139; simp [mshut] at this; exact this.1
        refine xi_aload_n dX10_does_142 rfl ?_
        refine xi_getR dX10_does_143 fgX10_26 mm0 rfl ?_
        refine xi_aload_n dX10_does_146 rfl ?_
        refine xi_getR dX10_does_147 fgX10_23 mm0 rfl ?_
        refine xi_iload dX10_does_150 rfl ?_
        have q5 := wlink k (by omega) (by omega)
        refine xe_iald (v := nI (glink G k)) k dX10_does_152 mm2 (by decide) rfl (by omega) (mg_link hG4 (by omega) (by omega)) ?_
        have q6 := wword (glink G k) (by omega)
        refine xe_iald (v := nI (gword G (glink G k))) (glink G k) dX10_does_153 mm3 (by decide) rfl (by omega) (mg_word hG4 (by omega)) ?_
        refine xi_iload_n dX10_does_154 rfl ?_
        refine xi_bipush (v := 64) dX10_does_155 (by decide) ?_
        refine xe_idiv dX10_does_157 (by decide) (v := nI (c / 64)) (pk_div (d := 64) (by omega) (by omega) (by omega)) ?_
        refine xn_icmp_ne (gword G (glink G k)) (c / 64) 179 dX10_does_158 (by decide) rfl rfl (by omega) (by omega) (fun h158 => ?_) (fun h158 => ?_)
        · skip
          refine xi_iconst (v := 0) dX10_does_179 rfl ?_
          refine xi_iret (v := 0) dX10_does_180 rfl ?_
          have e : mact G S p c = (0, (uF S p (nI (c / 16 % 4)))) := by
            unfold mact
            rw [h37_3]
            show (0, mtry G S p (c / 16 % 4) (c / 64 % 16)) = _
            rw [mtry, eo28]
            have hq : ¬ mwn G S p (c / 16 % 4) (c / 64 % 16) = true := by
              have h139b : mshut G S k = true := h139
              rw [mwn, eo28]
              simp [h139b, h158, hw64]
            exact congrArg (Prod.mk 0) (if_neg hq)
          rw [e] at h
          exact h M4 hF4 hS4
        · skip
          refine xi_aload_n dX10_does_161 rfl ?_
          refine xi_getR dX10_does_162 fgX10_39 mm0 rfl ?_
          refine xi_iload_n dX10_does_165 rfl ?_
          refine xi_bipush (v := 96) dX10_does_166 (by decide) ?_
          refine xe_iadd dX10_does_168 (v := nI (s + 96)) (nI_add s 96) ?_
          refine xi_aload_n dX10_does_169 rfl ?_
          refine xi_getR dX10_does_170 fgX10_23 mm0 rfl ?_
          refine xi_iload dX10_does_173 rfl ?_
          have q7 := wlink k (by omega) (by omega)
          refine xe_iald (v := nI (glink G k)) k dX10_does_175 mm2 (by decide) rfl (by omega) (mg_link hG4 (by omega) (by omega)) ?_
          refine xe_iadd dX10_does_176 (v := nI (s + 96 + (glink G k))) (nI_add (s + 96) (glink G k)) ?_
          refine xi_iconst (v := 1) dX10_does_177 rfl ?_
          refine xat 178 rfl ?_
          refine xe_iast (s + 96 + (glink G k)) dX10_does_178 mm5 (by decide) rfl (by omega) ?_
          generalize eM8 : (xa M4 5 (upd (M4.2.1 5) (s + 96 + (glink G k)) 1)) = M8
          have hS8 : RM G (uO (uF S p (nI (c / 16 % 4))) (glink G k) 1) M8 s := by rw [← eM8]; exact rmuO hW hS4 (by omega) 1
          have hF8 : Fm s M4 M8 := by rw [← eM8]; exact Fm.xa (by omega) (by omega)
          have hG8 : MG G M8 := MG.fm hG4 hF8
          have hw8 : wS G (uO (uF S p (nI (c / 16 % 4))) (glink G k) 1) := (wS_uO hw4)
          refine xi_iconst (v := 0) dX10_does_179 rfl ?_
          refine xi_iret (v := 0) dX10_does_180 rfl ?_
          have e : mact G S p c = (0, (uO (uF S p (nI (c / 16 % 4))) (glink G k) 1)) := by
            unfold mact
            rw [h37_3]
            show (0, mtry G S p (c / 16 % 4) (c / 64 % 16)) = _
            rw [mtry, eo28]
            have hq : mwn G S p (c / 16 % 4) (c / 64 % 16) = true := by
              have h139b : mshut G S k = true := h139
              rw [mwn, eo28]
              simp [h139b, h158, hw64]
            exact congrArg (Prod.mk 0) (if_pos hq)
          rw [e] at h
          exact h M8 (hF4.tr hF8) hS8
  by_cases h37_4 : c % 16 = 4
  · refine xi_tableIn 181 3 dX10_does_37 (by rw [nI_toInt (by omega), h37_4]; rfl) (by decide) rfl (by decide) ?_
    refine xi_aload_n dX10_does_181 rfl ?_
    refine xi_iload_n dX10_does_182 rfl ?_
    refine xi_iload_n dX10_does_183 rfl ?_
    refine xi_callV [.int (nI s), .int (nI p)] [] dX10_does_184 zX10_take mlX10_205 mm0 rfl rfl rfl rfl rfl (Nat.le_of_ble_eq_true rfl) (Nat.le_of_ble_eq_true rfl) ⟨by decide, by decide⟩ ?_
    refine n_take hW hG hs hS hw (p := p) (by omega) (fun M9 hF9 hS9 => ?_)
    have hG9 : MG G M9 := MG.fm hG hF9
    show WP _ _ 187 _ [] _ _
    refine xi_iconst (v := 0) dX10_does_187 rfl ?_
    refine xi_iret (v := 0) dX10_does_188 rfl ?_
    have e : mact G S p c = (0, (mpk G S p)) := by
      unfold mact
      rw [h37_4]
      rfl
    rw [e] at h
    exact h M9 hF9 hS9
  by_cases h37_5 : c % 16 = 5
  · refine xi_tableIn 189 4 dX10_does_37 (by rw [nI_toInt (by omega), h37_5]; rfl) (by decide) rfl (by decide) ?_
    refine xi_aload_n dX10_does_189 rfl ?_
    refine xi_getR dX10_does_190 fgX10_39 mm0 rfl ?_
    refine xi_iload dX10_does_193 rfl ?_
    refine xi_iconst (v := 4) dX10_does_195 rfl ?_
    refine xe_iadd dX10_does_196 (v := nI (s + (6 * p) + 4)) (nI_add (s + (6 * p)) 4) ?_
    obtain ⟨o10, ho10⟩ : ∃ o, o = sH S p := ⟨_, rfl⟩
    refine xe_iald (v := xo o10) (s + (6 * p) + 4) dX10_does_197 mm5 (by decide) rfl (by omega) (by rw [ho10]; exact rmH hS (by omega)) ?_
    refine xo_if_lt o10 207 dX10_does_198 (by decide) rfl (fun j q => by have := hw.2.2.2.2 p hp j (ho10.symm.trans q); omega) (fun h198 => ?_) (fun j h198 => ?_)
    · subst h198
      refine xi_iconst (v := 0) dX10_does_207 rfl ?_
      refine xi_iret (v := 0) dX10_does_208 rfl ?_
      have e : mact G S p c = (0, S) := by
        unfold mact
        rw [h37_5]
        show (0, mlet S p (sC S p)) = _
        rw [show mlet S p (sC S p) = S by unfold mlet; rw [← ho10]]
      rw [e] at h
      exact h M Fm.rf hS
    · subst h198
      have hj : sH S p = some j := ho10.symm
      refine xi_aload_n dX10_does_201 rfl ?_
      refine xi_iload_n dX10_does_202 rfl ?_
      refine xi_iload_n dX10_does_203 rfl ?_
      refine xi_callV [.int (nI s), .int (nI p)] [] dX10_does_204 zX10_drop mlX10_182 mm0 rfl rfl rfl rfl rfl (Nat.le_of_ble_eq_true rfl) (Nat.le_of_ble_eq_true rfl) ⟨by decide, by decide⟩ ?_
      refine n_drop hW hG hs hS hw (p := p) (by omega) hj (fun M11 hF11 hS11 => ?_)
      have hG11 : MG G M11 := MG.fm hG hF11
      have hw11 : wS G (mlet S p (sC S p)) := wS_let hw (by omega)
      show WP _ _ 207 _ [] _ _
      refine xi_iconst (v := 0) dX10_does_207 rfl ?_
      refine xi_iret (v := 0) dX10_does_208 rfl ?_
      have e : mact G S p c = (0, (mlet S p (sC S p))) := by
        unfold mact
        rw [h37_5]
        rfl
      rw [e] at h
      exact h M11 hF11 hS11
  by_cases h37_6 : c % 16 = 6
  · refine xi_tableIn 209 5 dX10_does_37 (by rw [nI_toInt (by omega), h37_6]; rfl) (by decide) rfl (by decide) ?_
    refine xi_aload_n dX10_does_209 rfl ?_
    refine xi_iload_n dX10_does_210 rfl ?_
    refine xi_iload_n dX10_does_211 rfl ?_
    refine xi_iload dX10_does_212 rfl ?_
    refine xi_callV [.int (nI s), .int (nI p), .int (nI (c / 16 % 4))] [] dX10_does_214 zX10_throwIt mlX10_208 mm0 rfl rfl rfl rfl rfl (Nat.le_of_ble_eq_true rfl) (Nat.le_of_ble_eq_true rfl) ⟨by decide, by decide⟩ ?_
    refine n_throw hW hG hs hS hw (p := p) (d := c / 16 % 4) (by omega) (by omega) (fun M12 hF12 hS12 => ?_)
    have hG12 : MG G M12 := MG.fm hG hF12
    show WP _ _ 217 _ [.int (nI (mhit (mhurl G S p (c / 16 % 4)).1))] _ _
    refine xi_iret (v := nI (mhit (mhurl G S p (c / 16 % 4)).1)) dX10_does_217 rfl ?_
    have e : mact G S p c = (mhit (mhurl G S p (c / 16 % 4)).1, ((mhurl G S p (c / 16 % 4)).2)) := by
      unfold mact
      rw [h37_6]
      rfl
    rw [e] at h
    exact h M12 hF12 hS12
  refine xi_tableOut 218 dX10_does_37 (by decide) (by rw [nI_toInt (by omega)]; omega) ?_
  refine xi_iconst (v := 0) dX10_does_218 rfl ?_
  refine xi_iret (v := 0) dX10_does_219 rfl ?_
  have e : mact G S p c = (0, S) := by
    unfold mact
    split <;> first | rfl | (exfalso; omega)
  rw [e] at h
  exact h M Fm.rf hS

set_option maxHeartbeats 4000000 in
set_option maxRecDepth 100000 in
theorem n_far {G : xG} {M : xM} {Q : Option Value → xM → Prop} (hW : wG G) (hG : MG G M) {a b : Nat} (ha : a < gN G) (hb : b < gN G) (h : Q (some (.int (nI ((mdx G a b).natAbs + (mdy G a b).natAbs)))) M) : WP shM mX10_far 0 [some (.ref 0), some (.int (nI a)), some (.int (nI b))] [] M Q := by
  obtain ⟨b1, b2, b3, b4, b5, b6, b7, b8, b9, wmap, wlink, wk0, wk1, b10, b11, wword⟩ := id hW
  have bx := mdx_bd hW b a
  have by_ := mdy_bd hW hb ha
  refine xi_iload_n dX10_far_0 rfl ?_
  refine xi_aload_n dX10_far_1 rfl ?_
  refine xe_getI (v := nI (gw G)) dX10_far_2 fgX10_7 mm0 rfl (mg_w hG) ?_
  refine xe_irem dX10_far_5 (nI_ne0 (by omega) (by omega)) (v := nI (a % gw G)) (pk_rem (by omega) (by omega) (by omega)) ?_
  refine xi_iload_n dX10_far_6 rfl ?_
  refine xi_aload_n dX10_far_7 rfl ?_
  refine xe_getI (v := nI (gw G)) dX10_far_8 fgX10_7 mm0 rfl (mg_w hG) ?_
  refine xe_irem dX10_far_11 (nI_ne0 (by omega) (by omega)) (v := nI (b % gw G)) (pk_rem (by omega) (by omega) (by omega)) ?_
  refine xe_isub dX10_far_12 (v := xz (mdx G b a)) (xz_nsub _ _) ?_
  refine xi_callS [.int (xz (mdx G b a))] [] dX10_far_13 zX10_amount mlX10_168 rfl rfl rfl (Nat.le_of_ble_eq_true rfl) (Nat.le_of_ble_eq_true rfl) ⟨by decide, by decide⟩ ?_
  refine n_amount (z := (mdx G b a)) (by omega) (by omega) ?_
  show WP _ _ 16 _ [.int (nI ((mdx G b a).natAbs))] _ _
  refine xi_iload_n dX10_far_16 rfl ?_
  refine xi_aload_n dX10_far_17 rfl ?_
  refine xe_getI (v := nI (gw G)) dX10_far_18 fgX10_7 mm0 rfl (mg_w hG) ?_
  refine xe_idiv dX10_far_21 (nI_ne0 (by omega) (by omega)) (v := nI (a / gw G)) (pk_div (by omega) (by omega) (by omega)) ?_
  refine xi_iload_n dX10_far_22 rfl ?_
  refine xi_aload_n dX10_far_23 rfl ?_
  refine xe_getI (v := nI (gw G)) dX10_far_24 fgX10_7 mm0 rfl (mg_w hG) ?_
  refine xe_idiv dX10_far_27 (nI_ne0 (by omega) (by omega)) (v := nI (b / gw G)) (pk_div (by omega) (by omega) (by omega)) ?_
  refine xe_isub dX10_far_28 (v := xz (mdy G b a)) (xz_nsub _ _) ?_
  refine xi_callS [.int (xz (mdy G b a))] [.int (nI ((mdx G b a).natAbs))] dX10_far_29 zX10_amount mlX10_168 rfl rfl rfl (Nat.le_of_ble_eq_true rfl) (Nat.le_of_ble_eq_true rfl) ⟨by decide, by decide⟩ ?_
  refine n_amount (z := (mdy G b a)) (by omega) (by omega) ?_
  show WP _ _ 32 _ [.int (nI ((mdy G b a).natAbs)), .int (nI ((mdx G b a).natAbs))] _ _
  refine xe_iadd dX10_far_32 (v := nI ((mdx G a b).natAbs + (mdy G a b).natAbs)) (by rw [mdx_sym, mdy_sym]; exact nI_add _ _) ?_
  refine xi_iret (v := nI ((mdx G a b).natAbs + (mdy G a b).natAbs)) dX10_far_33 rfl ?_
  exact h

set_option maxHeartbeats 4000000 in
set_option maxRecDepth 100000 in
theorem nl_prey {G : xG} {S : xS} {M : xM} {s : Nat} {Q : Option Value → xM → Prop} (hW : wG G) (hG : MG G M) (hs : s ≤ 56000) (hS : RM G S M s) (hw : wS G S) {n : Nat} (hn : n < gT G) (hkn : gkind G n ≤ 2) (hnP : gP G ≤ n) : ∀ (f p : Nat) (b : Option Nat), p + f = gP G → (∀ q, b = some q → q < gP G) → Q (some (.int (xo (mnear G S n p f b)))) M → WP shM mX10_prey 20 [some (.ref 0), some (.int (nI s)), some (.int (nI n)), some (.int (xo b)), some (.int (nI (mpos S n))), some (.int (nI p)), none] [] M Q := by
  obtain ⟨b1, b2, b3, b4, b5, b6, b7, b8, b9, wmap, wlink, wk0, wk1, b10, b11, wword⟩ := id hW
  have hpn := mpos_at hW hw hn hkn
  have hmr : mrad G S n = 4 := if_neg (fun q => by omega)
  intro f
  induction f with
  | zero =>
    intro p b hf hb h
    refine xi_iload dX10_prey_20 rfl ?_
    refine xi_aload_n dX10_prey_22 rfl ?_
    refine xe_getI (v := nI (gP G)) dX10_prey_23 fgX10_16 mm0 rfl (mg_P hG) ?_
    refine xn_icmp_ge p (gP G) 109 dX10_prey_26 (by decide) rfl rfl (by omega) (by omega) (fun h26 => ?_) (fun h26 => ?_)
    · skip
      refine xi_iload_n dX10_prey_109 rfl ?_
      refine xi_iret (v := xo b) dX10_prey_110 rfl ?_
      exact h
    · omega
  | succ f ih =>
    intro p b hf hb h
    refine xi_iload dX10_prey_20 rfl ?_
    refine xi_aload_n dX10_prey_22 rfl ?_
    refine xe_getI (v := nI (gP G)) dX10_prey_23 fgX10_16 mm0 rfl (mg_P hG) ?_
    refine xn_icmp_ge p (gP G) 109 dX10_prey_26 (by decide) rfl rfl (by omega) (by omega) (fun h26 => ?_) (fun h26 => ?_)
    · omega
    · skip
      have hp : p < gP G := by omega
      have hmp := mpos_P hW hw hp
      have hkp := wk0 p hp
      refine xi_aload_n dX10_prey_29 rfl ?_
      refine xi_getR dX10_prey_30 fgX10_39 mm0 rfl ?_
      refine xi_iload_n dX10_prey_33 rfl ?_
      refine xi_bipush (v := 6) dX10_prey_34 (by decide) ?_
      refine xi_iload dX10_prey_36 rfl ?_
      refine xe_imul dX10_prey_38 (v := nI (6 * p)) (pk_mul 6 p) ?_
      refine xe_iadd dX10_prey_39 (v := nI (s + (6 * p))) (nI_add s (6 * p)) ?_
      refine xi_iconst (v := 0) dX10_prey_40 rfl ?_
      refine xe_iadd dX10_prey_41 (v := nI (s + (6 * p) + 0)) (nI_add (s + (6 * p)) 0) ?_
      refine xe_iald (v := nI (mpos S p)) (s + (6 * p) + 0) dX10_prey_42 mm5 (by decide) rfl (by omega) ((rmC hS (by omega)).trans hmp.1) ?_
      refine xi_istore (lv' := [some (.ref 0), some (.int (nI s)), some (.int (nI n)), some (.int (xo b)), some (.int (nI (mpos S n))), some (.int (nI p)), some (.int (nI (mpos S p)))]) dX10_prey_43 (by decide) rfl ?_
      refine xat 45 rfl ?_
      refine xi_aload_n dX10_prey_45 rfl ?_
      refine xi_iload_n dX10_prey_46 rfl ?_
      refine xi_iload dX10_prey_47 rfl ?_
      refine xi_callV [.int (nI s), .int (nI p)] [] dX10_prey_49 zX10_stands mlX10_161 mm0 rfl rfl rfl rfl rfl (Nat.le_of_ble_eq_true rfl) (Nat.le_of_ble_eq_true rfl) ⟨by decide, by decide⟩ ?_
      refine n_stands hW hG hs hS hw (n := p) (by omega) ?_
      show WP _ _ 52 _ [.int (xb (decide (0 < sL S p)))] _ _
      refine xb_if_eq (decide (0 < sL S p)) 103 dX10_prey_52 (by decide) rfl (fun h52 => ?_) (fun h52 => ?_)
      · skip
        refine xi_iinc (v := nI (p + 1)) (lv' := [some (.ref 0), some (.int (nI s)), some (.int (nI n)), some (.int (xo b)), some (.int (nI (mpos S n))), some (.int (nI (p + 1))), some (.int (nI (mpos S p)))]) dX10_prey_103 rfl (xinc p) (by decide) rfl ?_
        refine xi_goto 20 dX10_prey_106 (by decide) ?_
        refine xi_drop [true, true, true, true, true, true, false] rfl ?_
        rw [mnear, if_neg (fun w => by simp at h52; omega)] at h
        exact ih (p + 1) b (by omega) (fun z e => by exact hb z e) h
      · skip
        refine xi_aload_n dX10_prey_55 rfl ?_
        refine xi_iload_n dX10_prey_56 rfl ?_
        refine xi_iload_n dX10_prey_57 rfl ?_
        refine xi_iload dX10_prey_58 rfl ?_
        refine xi_callV [.int (nI s), .int (nI n), .int (nI (mpos S p))] [] dX10_prey_60 zX10_thingSees mlX10_211 mm0 rfl rfl rfl rfl rfl (Nat.le_of_ble_eq_true rfl) (Nat.le_of_ble_eq_true rfl) ⟨by decide, by decide⟩ ?_
        refine n_tsees hW hG hs hS hw (n := n) (k := mpos S p) (by omega) (by omega) (by omega) ?_
        show WP _ _ 63 _ [.int (xb (msee G S (mpos S n) (mpos S p) (mrad G S n)))] _ _
        refine xb_if_eq (msee G S (mpos S n) (mpos S p) (mrad G S n)) 103 dX10_prey_63 (by decide) rfl (fun h63 => ?_) (fun h63 => ?_)
        · have h63b := h63; rw [hmr] at h63b
          refine xi_iinc (v := nI (p + 1)) (lv' := [some (.ref 0), some (.int (nI s)), some (.int (nI n)), some (.int (xo b)), some (.int (nI (mpos S n))), some (.int (nI (p + 1))), some (.int (nI (mpos S p)))]) dX10_prey_103 rfl (xinc p) (by decide) rfl ?_
          refine xi_goto 20 dX10_prey_106 (by decide) ?_
          refine xi_drop [true, true, true, true, true, true, false] rfl ?_
          rw [mnear, if_neg (fun w => by rw [h63b] at w; cases w.2.1)] at h
          exact ih (p + 1) b (by omega) (fun z e => by exact hb z e) h
        · have h63b := h63; rw [hmr] at h63b
          refine xi_iload_n dX10_prey_66 rfl ?_
          refine xo_if_lt b 100 dX10_prey_67 (by decide) rfl (fun q z => by have := hb q z; omega) (fun h67 => ?_) (fun q h67 => ?_)
          · subst h67
            refine xi_iload dX10_prey_100 rfl ?_
            refine xi_istore_n (lv' := [some (.ref 0), some (.int (nI s)), some (.int (nI n)), some (.int (nI p)), some (.int (nI (mpos S n))), some (.int (nI p)), some (.int (nI (mpos S p)))]) dX10_prey_102 (by decide) rfl ?_
            refine xi_iinc (v := nI (p + 1)) (lv' := [some (.ref 0), some (.int (nI s)), some (.int (nI n)), some (.int (nI p)), some (.int (nI (mpos S n))), some (.int (nI (p + 1))), some (.int (nI (mpos S p)))]) dX10_prey_103 rfl (xinc p) (by decide) rfl ?_
            refine xi_goto 20 dX10_prey_106 (by decide) ?_
            refine xi_drop [true, true, true, true, true, true, false] rfl ?_
            rw [mnear, if_pos ⟨by simpa using h52, h63b, fun z e => by cases e⟩] at h
            exact ih (p + 1) (some p) (by omega) (fun z e => by cases e; omega) h
          · subst h67
            have hq := hb q rfl
            have hmq := mpos_P hW hw hq
            have d1 : mdist G S n p < 100 := by have := mdx_bd hW (mpos S n) (mpos S p); have := mdy_bd hW hpn.2 hmp.2; unfold mdist; omega
            have d2 : mdist G S n q < 100 := by have := mdx_bd hW (mpos S n) (mpos S q); have := mdy_bd hW hpn.2 hmq.2; unfold mdist; omega
            refine xi_aload_n dX10_prey_70 rfl ?_
            refine xi_iload dX10_prey_71 rfl ?_
            refine xi_iload dX10_prey_73 rfl ?_
            refine xi_callV [.int (nI (mpos S n)), .int (nI (mpos S p))] [] dX10_prey_75 zX10_far mlX10_214 mm0 rfl rfl rfl rfl rfl (Nat.le_of_ble_eq_true rfl) (Nat.le_of_ble_eq_true rfl) ⟨by decide, by decide⟩ ?_
            refine n_far hW hG (a := mpos S n) (b := mpos S p) (by omega) (by omega) ?_
            show WP _ _ 78 _ [.int (nI (mdist G S n p))] _ _
            refine xi_aload_n dX10_prey_78 rfl ?_
            refine xi_iload dX10_prey_79 rfl ?_
            refine xi_aload_n dX10_prey_81 rfl ?_
            refine xi_getR dX10_prey_82 fgX10_39 mm0 rfl ?_
            refine xi_iload_n dX10_prey_85 rfl ?_
            refine xi_bipush (v := 6) dX10_prey_86 (by decide) ?_
            refine xi_iload_n dX10_prey_88 rfl ?_
            refine xe_imul dX10_prey_89 (v := nI (6 * q)) (pk_mul 6 q) ?_
            refine xe_iadd dX10_prey_90 (v := nI (s + (6 * q))) (nI_add s (6 * q)) ?_
            refine xi_iconst (v := 0) dX10_prey_91 rfl ?_
            refine xe_iadd dX10_prey_92 (v := nI (s + (6 * q) + 0)) (nI_add (s + (6 * q)) 0) ?_
            refine xat 93 rfl ?_
            refine xe_iald (v := nI (mpos S q)) (s + (6 * q) + 0) dX10_prey_93 mm5 (by decide) rfl (by omega) ((rmC hS (by omega)).trans hmq.1) ?_
            refine xi_callV [.int (nI (mpos S n)), .int (nI (mpos S q))] [.int (nI (mdist G S n p))] dX10_prey_94 zX10_far mlX10_214 mm0 rfl rfl rfl rfl rfl (Nat.le_of_ble_eq_true rfl) (Nat.le_of_ble_eq_true rfl) ⟨by decide, by decide⟩ ?_
            refine n_far hW hG (a := mpos S n) (b := mpos S q) (by omega) (by omega) ?_
            show WP _ _ 97 _ [.int (nI (mdist G S n q)), .int (nI (mdist G S n p))] _ _
            refine xn_icmp_ge (mdist G S n p) (mdist G S n q) 103 dX10_prey_97 (by decide) rfl rfl (by omega) (by omega) (fun h97 => ?_) (fun h97 => ?_)
            · skip
              refine xi_iinc (v := nI (p + 1)) (lv' := [some (.ref 0), some (.int (nI s)), some (.int (nI n)), some (.int (xo (some q))), some (.int (nI (mpos S n))), some (.int (nI (p + 1))), some (.int (nI (mpos S p)))]) dX10_prey_103 rfl (xinc p) (by decide) rfl ?_
              refine xi_goto 20 dX10_prey_106 (by decide) ?_
              refine xi_drop [true, true, true, true, true, true, false] rfl ?_
              rw [mnear, if_neg (fun w => by have := w.2.2 _ rfl; omega)] at h
              exact ih (p + 1) (some q) (by omega) (fun z e => by cases e; omega) h
            · skip
              refine xi_iload dX10_prey_100 rfl ?_
              refine xi_istore_n (lv' := [some (.ref 0), some (.int (nI s)), some (.int (nI n)), some (.int (nI p)), some (.int (nI (mpos S n))), some (.int (nI p)), some (.int (nI (mpos S p)))]) dX10_prey_102 (by decide) rfl ?_
              refine xi_iinc (v := nI (p + 1)) (lv' := [some (.ref 0), some (.int (nI s)), some (.int (nI n)), some (.int (nI p)), some (.int (nI (mpos S n))), some (.int (nI (p + 1))), some (.int (nI (mpos S p)))]) dX10_prey_103 rfl (xinc p) (by decide) rfl ?_
              refine xi_goto 20 dX10_prey_106 (by decide) ?_
              refine xi_drop [true, true, true, true, true, true, false] rfl ?_
              rw [mnear, if_pos ⟨by simpa using h52, h63b, fun z e => by cases e; exact h97⟩] at h
              exact ih (p + 1) (some p) (by omega) (fun z e => by cases e; omega) h

set_option maxHeartbeats 4000000 in
set_option maxRecDepth 100000 in
theorem n_prey {G : xG} {S : xS} {M : xM} {s : Nat} {Q : Option Value → xM → Prop} (hW : wG G) (hG : MG G M) (hs : s ≤ 56000) (hS : RM G S M s) (hw : wS G S) {n : Nat} (hn : n < gT G) (hkn : gkind G n ≤ 2) (hnP : gP G ≤ n) (h : Q (some (.int (xo (mprey G S n)))) M) : WP shM mX10_prey 0 [some (.ref 0), some (.int (nI s)), some (.int (nI n)), none, none, none, none] [] M Q := by
  obtain ⟨b1, b2, b3, b4, b5, b6, b7, b8, b9, wmap, wlink, wk0, wk1, b10, b11, wword⟩ := id hW
  have hpn := mpos_at hW hw hn hkn
  refine xi_iconst (v := (-1)) dX10_prey_0 rfl ?_
  refine xi_istore_n (lv' := [some (.ref 0), some (.int (nI s)), some (.int (nI n)), some (.int (-1)), none, none, none]) dX10_prey_1 (by decide) rfl ?_
  refine xi_aload_n dX10_prey_2 rfl ?_
  refine xi_getR dX10_prey_3 fgX10_39 mm0 rfl ?_
  refine xi_iload_n dX10_prey_6 rfl ?_
  refine xi_bipush (v := 6) dX10_prey_7 (by decide) ?_
  refine xi_iload_n dX10_prey_9 rfl ?_
  refine xe_imul dX10_prey_10 (v := nI (6 * n)) (pk_mul 6 n) ?_
  refine xe_iadd dX10_prey_11 (v := nI (s + (6 * n))) (nI_add s (6 * n)) ?_
  refine xi_iconst (v := 0) dX10_prey_12 rfl ?_
  refine xe_iadd dX10_prey_13 (v := nI (s + (6 * n) + 0)) (nI_add (s + (6 * n)) 0) ?_
  refine xat 14 rfl ?_
  refine xe_iald (v := nI (mpos S n)) (s + (6 * n) + 0) dX10_prey_14 mm5 (by decide) rfl (by omega) ((rmC hS (by omega)).trans hpn.1) ?_
  refine xi_istore (lv' := [some (.ref 0), some (.int (nI s)), some (.int (nI n)), some (.int (-1)), some (.int (nI (mpos S n))), none, none]) dX10_prey_15 (by decide) rfl ?_
  refine xi_iconst (v := 0) dX10_prey_17 rfl ?_
  refine xi_istore (lv' := [some (.ref 0), some (.int (nI s)), some (.int (nI n)), some (.int (-1)), some (.int (nI (mpos S n))), some (.int 0), none]) dX10_prey_18 (by decide) rfl ?_
  exact nl_prey hW hG hs hS hw hn hkn hnP (gP G) 0 none (by omega) (fun q z => by cases z) h

set_option maxHeartbeats 4000000 in
set_option maxRecDepth 100000 in
theorem nl_learn {G : xG} {s : Nat} {Q : Option Value → xM → Prop} (hW : wG G) (hs : s ≤ 56000) : ∀ (f p : Nat) (S : xS) (M : xM), p + f = gP G → MG G M → RM G S M s → wS G S → (∀ M2, Fm s M M2 → RM G (mplL G p f S) M2 s → Q none M2) → WP shM mX10_learn 2 [some (.ref 0), some (.int (nI s)), some (.int (nI p)), none] [] M Q := by
  obtain ⟨b1, b2, b3, b4, b5, b6, b7, b8, b9, wmap, wlink, wk0, wk1, b10, b11, wword⟩ := id hW
  intro f
  induction f with
  | zero =>
    intro p S M hf hG hS hw h
    refine xi_iload_n dX10_learn_2 rfl ?_
    refine xi_aload_n dX10_learn_3 rfl ?_
    refine xe_getI (v := nI (gP G)) dX10_learn_4 fgX10_16 mm0 rfl (mg_P hG) ?_
    refine xn_icmp_ge p (gP G) 71 dX10_learn_7 (by decide) rfl rfl (by omega) (by omega) (fun h7 => ?_) (fun h7 => ?_)
    · skip
      refine xi_vret dX10_learn_71 rfl ?_
      exact h M Fm.rf hS
    · omega
  | succ f ih =>
    intro p S M hf hG hS hw h
    refine xi_iload_n dX10_learn_2 rfl ?_
    refine xi_aload_n dX10_learn_3 rfl ?_
    refine xe_getI (v := nI (gP G)) dX10_learn_4 fgX10_16 mm0 rfl (mg_P hG) ?_
    refine xn_icmp_ge p (gP G) 71 dX10_learn_7 (by decide) rfl rfl (by omega) (by omega) (fun h7 => ?_) (fun h7 => ?_)
    · omega
    · skip
      have hp : p < gP G := by omega
      have hmp := mpos_P hW hw hp
      refine xi_aload_n dX10_learn_10 rfl ?_
      refine xi_getR dX10_learn_11 fgX10_39 mm0 rfl ?_
      refine xi_iload_n dX10_learn_14 rfl ?_
      refine xi_bipush (v := 6) dX10_learn_15 (by decide) ?_
      refine xi_iload_n dX10_learn_17 rfl ?_
      refine xe_imul dX10_learn_18 (v := nI (6 * p)) (pk_mul 6 p) ?_
      refine xe_iadd dX10_learn_19 (v := nI (s + (6 * p))) (nI_add s (6 * p)) ?_
      refine xi_iconst (v := 0) dX10_learn_20 rfl ?_
      refine xe_iadd dX10_learn_21 (v := nI (s + (6 * p) + 0)) (nI_add (s + (6 * p)) 0) ?_
      refine xe_iald (v := nI (mpos S p)) (s + (6 * p) + 0) dX10_learn_22 mm5 (by decide) rfl (by omega) ((rmC hS (by omega)).trans hmp.1) ?_
      refine xi_istore_n (lv' := [some (.ref 0), some (.int (nI s)), some (.int (nI p)), some (.int (nI (mpos S p)))]) dX10_learn_23 (by decide) rfl ?_
      refine xat 24 rfl ?_
      refine xi_aload_n dX10_learn_24 rfl ?_
      refine xi_iload_n dX10_learn_25 rfl ?_
      refine xi_iload_n dX10_learn_26 rfl ?_
      refine xi_callV [.int (nI s), .int (nI p)] [] dX10_learn_27 zX10_stands mlX10_161 mm0 rfl rfl rfl rfl rfl (Nat.le_of_ble_eq_true rfl) (Nat.le_of_ble_eq_true rfl) ⟨by decide, by decide⟩ ?_
      refine n_stands hW hG hs hS hw (n := p) (by omega) ?_
      show WP _ _ 30 _ [.int (xb (decide (0 < sL S p)))] _ _
      refine xb_if_eq (decide (0 < sL S p)) 65 dX10_learn_30 (by decide) rfl (fun h30 => ?_) (fun h30 => ?_)
      · skip
        refine xi_iinc (v := nI (p + 1)) (lv' := [some (.ref 0), some (.int (nI s)), some (.int (nI (p + 1))), some (.int (nI (mpos S p)))]) dX10_learn_65 rfl (xinc p) (by decide) rfl ?_
        refine xi_goto 2 dX10_learn_68 (by decide) ?_
        refine xi_drop [true, true, true, false] rfl ?_
        exact ih (p + 1) S M (by omega) hG hS hw (fun M99 hF99 hS99 => h M99 (Fm.rf.tr hF99) (by rw [mplL, if_neg (fun w => by simp at h30; omega)]; exact hS99))
      · skip
        refine xi_aload_n dX10_learn_33 rfl ?_
        refine xi_getR dX10_learn_34 fgX10_19 mm0 rfl ?_
        refine xi_iload_n dX10_learn_37 rfl ?_
        have q1 := wmap (mpos S p) (by omega)
        refine xe_iald (v := nI (gmap G (mpos S p))) (mpos S p) dX10_learn_38 mm1 (by decide) rfl (by omega) (mg_map hG (by omega)) ?_
        refine xi_iconst (v := 3) dX10_learn_39 rfl ?_
        refine xn_icmp_ne (gmap G (mpos S p)) 3 65 dX10_learn_40 (by decide) rfl rfl (by omega) (by omega) (fun h40 => ?_) (fun h40 => ?_)
        · skip
          refine xi_iinc (v := nI (p + 1)) (lv' := [some (.ref 0), some (.int (nI s)), some (.int (nI (p + 1))), some (.int (nI (mpos S p)))]) dX10_learn_65 rfl (xinc p) (by decide) rfl ?_
          refine xi_goto 2 dX10_learn_68 (by decide) ?_
          refine xi_drop [true, true, true, false] rfl ?_
          exact ih (p + 1) S M (by omega) hG hS hw (fun M99 hF99 hS99 => h M99 (Fm.rf.tr hF99) (by rw [mplL, if_neg (fun w => h40 w.2)]; exact hS99))
        · skip
          refine xi_aload_n dX10_learn_43 rfl ?_
          refine xi_getR dX10_learn_44 fgX10_39 mm0 rfl ?_
          refine xi_iload_n dX10_learn_47 rfl ?_
          refine xi_bipush (v := 108) dX10_learn_48 (by decide) ?_
          refine xe_iadd dX10_learn_50 (v := nI (s + 108)) (nI_add s 108) ?_
          refine xi_iload_n dX10_learn_51 rfl ?_
          refine xe_iadd dX10_learn_52 (v := nI (s + 108 + p)) (nI_add (s + 108) p) ?_
          refine xi_dup2 dX10_learn_53 rfl rfl ?_
          refine xe_iald (v := sK S p) (s + 108 + p) dX10_learn_54 mm5 (by decide) rfl (by omega) (rmK hS (by omega)) ?_
          refine xi_iconst (v := 1) dX10_learn_55 rfl ?_
          refine xi_aload_n dX10_learn_56 rfl ?_
          refine xat 57 rfl ?_
          refine xi_getR dX10_learn_57 fgX10_23 mm0 rfl ?_
          refine xi_iload_n dX10_learn_60 rfl ?_
          have q3 := wlink (mpos S p) (by omega) (by omega)
          refine xe_iald (v := nI (glink G (mpos S p))) (mpos S p) dX10_learn_61 mm2 (by decide) rfl (by omega) (mg_link hG (by omega) (by omega)) ?_
          refine xi_ishl dX10_learn_62 ?_
          refine xe_ior dX10_learn_63 (v := (sK S p ||| ((1 : Int32) <<< (nI (glink G (mpos S p)) &&& 31)))) rfl ?_
          refine xe_iast (s + 108 + p) dX10_learn_64 mm5 (by decide) rfl (by omega) ?_
          generalize eM4 : (xa M 5 (upd (M.2.1 5) (s + 108 + p) (sK S p ||| ((1 : Int32) <<< (nI (glink G (mpos S p)) &&& 31))))) = M4
          have hS4 : RM G (uK S p (sK S p ||| ((1 : Int32) <<< (nI (glink G (mpos S p)) &&& 31)))) M4 s := by rw [← eM4]; exact rmuK hW hS (by omega) (sK S p ||| ((1 : Int32) <<< (nI (glink G (mpos S p)) &&& 31)))
          have hF4 : Fm s M M4 := by rw [← eM4]; exact Fm.xa (by omega) (by omega)
          have hG4 : MG G M4 := MG.fm hG hF4
          have hw4 : wS G (uK S p (sK S p ||| ((1 : Int32) <<< (nI (glink G (mpos S p)) &&& 31)))) := (wS_uK hw)
          refine xi_iinc (v := nI (p + 1)) (lv' := [some (.ref 0), some (.int (nI s)), some (.int (nI (p + 1))), some (.int (nI (mpos S p)))]) dX10_learn_65 rfl (xinc p) (by decide) rfl ?_
          refine xi_goto 2 dX10_learn_68 (by decide) ?_
          refine xi_drop [true, true, true, false] rfl ?_
          exact ih (p + 1) (uK S p (sK S p ||| ((1 : Int32) <<< (nI (glink G (mpos S p)) &&& 31)))) M4 (by omega) hG4 hS4 hw4 (fun M99 hF99 hS99 => h M99 (hF4.tr hF99) (by rw [mplL, if_pos ⟨by simpa using h30, h40⟩]; exact hS99))

set_option maxHeartbeats 4000000 in
set_option maxRecDepth 100000 in
theorem n_learn {G : xG} {S : xS} {M : xM} {s : Nat} {Q : Option Value → xM → Prop} (hW : wG G) (hG : MG G M) (hs : s ≤ 56000) (hS : RM G S M s) (hw : wS G S)  (h : ∀ M2, Fm s M M2 → RM G (mplates G S) M2 s → Q none M2) : WP shM mX10_learn 0 [some (.ref 0), some (.int (nI s)), none, none] [] M Q := by
  obtain ⟨b1, b2, b3, b4, b5, b6, b7, b8, b9, wmap, wlink, wk0, wk1, b10, b11, wword⟩ := id hW
  refine xi_iconst (v := 0) dX10_learn_0 rfl ?_
  refine xi_istore_n (lv' := [some (.ref 0), some (.int (nI s)), some (.int 0), none]) dX10_learn_1 (by decide) rfl ?_
  exact nl_learn hW hs (gP G) 0 S M (by omega) hG hS hw h

