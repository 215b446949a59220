theorem row_col {a x y c : Nat} (hx : x < a) (ec : c = y * a + x) : c / a = y ∧ c % a = x := by
  have h1 : c % a = x := by rw [ec, Nat.mul_comm, Nat.mul_add_mod, Nat.mod_eq_of_lt hx]
  refine ⟨?_, h1⟩
  have h2 := Nat.div_add_mod c a
  rw [h1] at h2
  have h3 : a * (c / a) = a * y := by rw [Nat.mul_comm a y]; omega
  exact Nat.eq_of_mul_eq_mul_left (by omega) h3
/-- changed at one cell of the ground's tables alone -/
def FC (c : Nat) (M M2 : xM) : Prop := M2.1 = M.1 ∧ M2.2.2 = M.2.2 ∧ (∀ a, ¬ a = 4 → ¬ a = 5 → ¬ a = 6 → M2.2.1 a = M.2.1 a) ∧ (∀ k, ¬ k = c → M2.2.1 4 k = M.2.1 4 k ∧ M2.2.1 5 k = M.2.1 5 k) ∧ ∀ k, (k < c * 4 ∨ c * 4 + 4 ≤ k) → M2.2.1 6 k = M.2.1 6 k
/-- the cells below n are laid -/
def LC (a b P n : Nat) (M : xM) : Prop := ∀ k, k < n → M.2.1 4 k = nI (k % a) ∧ M.2.1 5 k = nI (k / a) ∧ ∀ d, d < 4 → M.2.1 6 (k * 4 + d) = xo (mnext (g0 a b P) k d)
theorem LC.step {a b P c : Nat} {M M2 : xM} (h : LC a b P c M) (f : FC c M M2) (h1 : M2.2.1 4 c = nI (c % a)) (h2 : M2.2.1 5 c = nI (c / a)) (h3 : ∀ d, d < 4 → M2.2.1 6 (c * 4 + d) = xo (mnext (g0 a b P) c d)) : LC a b P (c + 1) M2 := by
  intro k hk
  by_cases e : k = c
  · rw [e]; exact ⟨h1, h2, h3⟩
  · obtain ⟨q1, q2, q3⟩ := h k (by omega)
    exact ⟨(f.2.2.2.1 k e).1.trans q1, (f.2.2.2.1 k e).2.trans q2, fun d hd => (f.2.2.2.2 _ (by omega)).trans (q3 d hd)⟩
set_option maxHeartbeats 4000000 in
set_option maxRecDepth 100000 in
theorem g_layCell {M : xM} {Q : Option Value → xM → Prop} {a b P x y c : Nat} (ha : 3 ≤ a) (ha2 : a ≤ 10) (hb : 3 ≤ b) (hb2 : b ≤ 10) (hx : x < a) (hy : y < b) (ec : c = y * a + x) (hc : c < 100) (hwa : M.1 1 0 = nI a) (hhb : M.1 1 1 = nI b) (h : ∀ M2, FC c M M2 → M2.2.1 4 c = nI (c % a) → M2.2.1 5 c = nI (c / a) → (∀ d, d < 4 → M2.2.1 6 (c * 4 + d) = xo (mnext (g0 a b P) c d)) → Q none M2) : WP shC mX1_layCell 0 [some (.ref 1), some (.int (nI x)), some (.int (nI y)), none] [] M Q := by
  have rc := row_col hx ec
  have hya : 0 < y → a ≤ y * a := fun z => Nat.le_mul_of_pos_left a z
  refine xi_iload_n dX1_layCell_0 rfl ?_
  refine xi_aload_n dX1_layCell_1 rfl ?_
  refine xe_getI (v := nI a) dX1_layCell_2 fgX1_33 cc1 rfl hwa ?_
  refine xe_imul dX1_layCell_5 (v := nI (y * a)) (pk_mul y a) ?_
  refine xi_iload_n dX1_layCell_6 rfl ?_
  refine xe_iadd dX1_layCell_7 (v := nI c) ((nI_add _ _).trans (congrArg nI ec.symm)) ?_
  refine xi_istore_n (lv' := [some (.ref 1), some (.int (nI x)), some (.int (nI y)), some (.int (nI c))]) dX1_layCell_8 (by decide) rfl ?_
  refine xi_aload_n dX1_layCell_9 rfl ?_
  refine xi_getR dX1_layCell_10 fgX1_18 cc1 rfl ?_
  refine xi_iload_n dX1_layCell_13 rfl ?_
  refine xi_iload_n dX1_layCell_14 rfl ?_
  refine xat 15 rfl ?_
  refine xe_iast c dX1_layCell_15 cc4 (by decide) rfl (by omega) ?_
  refine xi_aload_n dX1_layCell_16 rfl ?_
  refine xi_getR dX1_layCell_17 fgX1_21 cc1 rfl ?_
  refine xi_iload_n dX1_layCell_20 rfl ?_
  refine xi_iload_n dX1_layCell_21 rfl ?_
  refine xe_iast c dX1_layCell_22 cc5 (by decide) rfl (by omega) ?_
  refine xi_aload_n dX1_layCell_23 rfl ?_
  refine xi_getR dX1_layCell_24 fgX1_24 cc1 rfl ?_
  refine xi_iload_n dX1_layCell_27 rfl ?_
  refine xi_iconst (v := 4) dX1_layCell_28 rfl ?_
  refine xe_imul dX1_layCell_29 (v := nI (c * 4)) (pk_mul c 4) ?_
  refine xi_iconst (v := 0) dX1_layCell_30 rfl ?_
  refine xat 31 rfl ?_
  refine xe_iadd dX1_layCell_31 (v := nI (c * 4 + 0)) (nI_add (c * 4) 0) ?_
  refine xi_iload_n dX1_layCell_32 rfl ?_
  refine xn_if_le y 45 dX1_layCell_33 (by decide) rfl (by omega) (fun h33 => ?_) (fun h33 => ?_)
  · skip
    refine xi_iconst (v := (-1)) dX1_layCell_45 rfl ?_
    refine xe_iast (c * 4 + 0) dX1_layCell_46 cc6 (by decide) rfl (by omega) ?_
    refine xi_aload_n dX1_layCell_47 rfl ?_
    refine xi_getR dX1_layCell_48 fgX1_24 cc1 rfl ?_
    refine xi_iload_n dX1_layCell_51 rfl ?_
    refine xi_iconst (v := 4) dX1_layCell_52 rfl ?_
    refine xe_imul dX1_layCell_53 (v := nI (c * 4)) (pk_mul c 4) ?_
    refine xi_iconst (v := 1) dX1_layCell_54 rfl ?_
    refine xe_iadd dX1_layCell_55 (v := nI (c * 4 + 1)) (nI_add (c * 4) 1) ?_
    refine xi_iload_n dX1_layCell_56 rfl ?_
    refine xi_aload_n dX1_layCell_57 rfl ?_
    refine xat 58 rfl ?_
    refine xe_getI (v := nI a) dX1_layCell_58 fgX1_33 cc1 rfl hwa ?_
    refine xi_iconst (v := 1) dX1_layCell_61 rfl ?_
    refine xe_isub dX1_layCell_62 (v := nI (a - 1)) (pk_sub (b := 1) (by omega)) ?_
    refine xn_icmp_ge x (a - 1) 72 dX1_layCell_63 (by decide) rfl rfl (by omega) (by omega) (fun h63 => ?_) (fun h63 => ?_)
    · skip
      refine xi_iconst (v := (-1)) dX1_layCell_72 rfl ?_
      refine xe_iast (c * 4 + 1) dX1_layCell_73 cc6 (by decide) rfl (by omega) ?_
      refine xi_aload_n dX1_layCell_74 rfl ?_
      refine xi_getR dX1_layCell_75 fgX1_24 cc1 rfl ?_
      refine xi_iload_n dX1_layCell_78 rfl ?_
      refine xi_iconst (v := 4) dX1_layCell_79 rfl ?_
      refine xe_imul dX1_layCell_80 (v := nI (c * 4)) (pk_mul c 4) ?_
      refine xi_iconst (v := 2) dX1_layCell_81 rfl ?_
      refine xe_iadd dX1_layCell_82 (v := nI (c * 4 + 2)) (nI_add (c * 4) 2) ?_
      refine xi_iload_n dX1_layCell_83 rfl ?_
      refine xi_aload_n dX1_layCell_84 rfl ?_
      refine xat 85 rfl ?_
      refine xe_getI (v := nI b) dX1_layCell_85 fgX1_37 cc1 rfl hhb ?_
      refine xi_iconst (v := 1) dX1_layCell_88 rfl ?_
      refine xe_isub dX1_layCell_89 (v := nI (b - 1)) (pk_sub (b := 1) (by omega)) ?_
      refine xn_icmp_ge y (b - 1) 102 dX1_layCell_90 (by decide) rfl rfl (by omega) (by omega) (fun h90 => ?_) (fun h90 => ?_)
      · skip
        refine xi_iconst (v := (-1)) dX1_layCell_102 rfl ?_
        refine xe_iast (c * 4 + 2) dX1_layCell_103 cc6 (by decide) rfl (by omega) ?_
        refine xi_aload_n dX1_layCell_104 rfl ?_
        refine xi_getR dX1_layCell_105 fgX1_24 cc1 rfl ?_
        refine xi_iload_n dX1_layCell_108 rfl ?_
        refine xi_iconst (v := 4) dX1_layCell_109 rfl ?_
        refine xe_imul dX1_layCell_110 (v := nI (c * 4)) (pk_mul c 4) ?_
        refine xi_iconst (v := 3) dX1_layCell_111 rfl ?_
        refine xe_iadd dX1_layCell_112 (v := nI (c * 4 + 3)) (nI_add (c * 4) 3) ?_
        refine xi_iload_n dX1_layCell_113 rfl ?_
        refine xn_if_le x 123 dX1_layCell_114 (by decide) rfl (by omega) (fun h114 => ?_) (fun h114 => ?_)
        · skip
          refine xi_iconst (v := (-1)) dX1_layCell_123 rfl ?_
          refine xe_iast (c * 4 + 3) dX1_layCell_124 cc6 (by decide) rfl (by omega) ?_
          refine xi_vret dX1_layCell_125 rfl ?_
          refine h _ ⟨rfl, rfl, fun a a4 a5 a6 => ?_, fun k hk => ⟨?_, ?_⟩, fun k hk => ?_⟩ ?_ ?_ (fun d hd => ?_)
          · rw [xa_n a6, xa_n a6, xa_n a6, xa_n a6, xa_n a5, xa_n a4]
          · rw [xa_n (by decide), xa_n (by decide), xa_n (by decide), xa_n (by decide), xa_n (by decide), xa_s, upd_n hk]
          · rw [xa_n (by decide), xa_n (by decide), xa_n (by decide), xa_n (by decide), xa_s, upd_n hk, xa_n (by decide)]
          · rw [xa_s, upd_n (by omega), xa_s, upd_n (by omega), xa_s, upd_n (by omega), xa_s, upd_n (by omega), xa_n (by decide), xa_n (by decide)]
          · rw [xa_n (by decide), xa_n (by decide), xa_n (by decide), xa_n (by decide), xa_n (by decide), xa_s, upd_s, rc.2]
          · rw [xa_n (by decide), xa_n (by decide), xa_n (by decide), xa_n (by decide), xa_s, upd_s, rc.1]
          · rcases (show d = 0 ∨ d = 1 ∨ d = 2 ∨ d = 3 by omega) with rfl | rfl | rfl | rfl
            · rw [xa_s, upd_n (by omega), xa_s, upd_n (by omega), xa_s, upd_n (by omega), xa_s, upd_s]; show _ = xo (if c / a = 0 then none else some (c - a)); rw [rc.1]; first | (rw [if_pos h33]; rfl) | (rw [if_neg (by omega)]; rfl)
            · rw [xa_s, upd_n (by omega), xa_s, upd_n (by omega), xa_s, upd_s]; show _ = xo (if c % a + 1 < a then some (c + 1) else none); rw [rc.2]; first | (rw [if_pos (by omega)]; rfl) | (rw [if_neg (by omega)]; rfl)
            · rw [xa_s, upd_n (by omega), xa_s, upd_s]; show _ = xo (if c / a + 1 < b then some (c + a) else none); rw [rc.1]; first | (rw [if_pos (by omega)]; rfl) | (rw [if_neg (by omega)]; rfl)
            · rw [xa_s, upd_s]; show _ = xo (if c % a = 0 then none else some (c - 1)); rw [rc.2]; first | (rw [if_pos h114]; rfl) | (rw [if_neg (by omega)]; rfl)
        · skip
          refine xi_iload_n dX1_layCell_117 rfl ?_
          refine xi_iconst (v := 1) dX1_layCell_118 rfl ?_
          refine xe_isub dX1_layCell_119 (v := nI (c - 1)) (pk_sub (b := 1) (by omega)) ?_
          refine xi_goto 124 dX1_layCell_120 (by decide) ?_
          refine xe_iast (c * 4 + 3) dX1_layCell_124 cc6 (by decide) rfl (by omega) ?_
          refine xi_vret dX1_layCell_125 rfl ?_
          refine h _ ⟨rfl, rfl, fun a a4 a5 a6 => ?_, fun k hk => ⟨?_, ?_⟩, fun k hk => ?_⟩ ?_ ?_ (fun d hd => ?_)
          · rw [xa_n a6, xa_n a6, xa_n a6, xa_n a6, xa_n a5, xa_n a4]
          · rw [xa_n (by decide), xa_n (by decide), xa_n (by decide), xa_n (by decide), xa_n (by decide), xa_s, upd_n hk]
          · rw [xa_n (by decide), xa_n (by decide), xa_n (by decide), xa_n (by decide), xa_s, upd_n hk, xa_n (by decide)]
          · rw [xa_s, upd_n (by omega), xa_s, upd_n (by omega), xa_s, upd_n (by omega), xa_s, upd_n (by omega), xa_n (by decide), xa_n (by decide)]
          · rw [xa_n (by decide), xa_n (by decide), xa_n (by decide), xa_n (by decide), xa_n (by decide), xa_s, upd_s, rc.2]
          · rw [xa_n (by decide), xa_n (by decide), xa_n (by decide), xa_n (by decide), xa_s, upd_s, rc.1]
          · rcases (show d = 0 ∨ d = 1 ∨ d = 2 ∨ d = 3 by omega) with rfl | rfl | rfl | rfl
            · rw [xa_s, upd_n (by omega), xa_s, upd_n (by omega), xa_s, upd_n (by omega), xa_s, upd_s]; show _ = xo (if c / a = 0 then none else some (c - a)); rw [rc.1]; first | (rw [if_pos h33]; rfl) | (rw [if_neg (by omega)]; rfl)
            · rw [xa_s, upd_n (by omega), xa_s, upd_n (by omega), xa_s, upd_s]; show _ = xo (if c % a + 1 < a then some (c + 1) else none); rw [rc.2]; first | (rw [if_pos (by omega)]; rfl) | (rw [if_neg (by omega)]; rfl)
            · rw [xa_s, upd_n (by omega), xa_s, upd_s]; show _ = xo (if c / a + 1 < b then some (c + a) else none); rw [rc.1]; first | (rw [if_pos (by omega)]; rfl) | (rw [if_neg (by omega)]; rfl)
            · rw [xa_s, upd_s]; show _ = xo (if c % a = 0 then none else some (c - 1)); rw [rc.2]; first | (rw [if_pos h114]; rfl) | (rw [if_neg (by omega)]; rfl)
      · skip
        refine xi_iload_n dX1_layCell_93 rfl ?_
        refine xi_aload_n dX1_layCell_94 rfl ?_
        refine xe_getI (v := nI a) dX1_layCell_95 fgX1_33 cc1 rfl hwa ?_
        refine xe_iadd dX1_layCell_98 (v := nI (c + a)) (nI_add c a) ?_
        refine xi_goto 103 dX1_layCell_99 (by decide) ?_
        refine xe_iast (c * 4 + 2) dX1_layCell_103 cc6 (by decide) rfl (by omega) ?_
        refine xi_aload_n dX1_layCell_104 rfl ?_
        refine xi_getR dX1_layCell_105 fgX1_24 cc1 rfl ?_
        refine xi_iload_n dX1_layCell_108 rfl ?_
        refine xi_iconst (v := 4) dX1_layCell_109 rfl ?_
        refine xe_imul dX1_layCell_110 (v := nI (c * 4)) (pk_mul c 4) ?_
        refine xi_iconst (v := 3) dX1_layCell_111 rfl ?_
        refine xe_iadd dX1_layCell_112 (v := nI (c * 4 + 3)) (nI_add (c * 4) 3) ?_
        refine xi_iload_n dX1_layCell_113 rfl ?_
        refine xn_if_le x 123 dX1_layCell_114 (by decide) rfl (by omega) (fun h114 => ?_) (fun h114 => ?_)
        · skip
          refine xi_iconst (v := (-1)) dX1_layCell_123 rfl ?_
          refine xe_iast (c * 4 + 3) dX1_layCell_124 cc6 (by decide) rfl (by omega) ?_
          refine xi_vret dX1_layCell_125 rfl ?_
          refine h _ ⟨rfl, rfl, fun a a4 a5 a6 => ?_, fun k hk => ⟨?_, ?_⟩, fun k hk => ?_⟩ ?_ ?_ (fun d hd => ?_)
          · rw [xa_n a6, xa_n a6, xa_n a6, xa_n a6, xa_n a5, xa_n a4]
          · rw [xa_n (by decide), xa_n (by decide), xa_n (by decide), xa_n (by decide), xa_n (by decide), xa_s, upd_n hk]
          · rw [xa_n (by decide), xa_n (by decide), xa_n (by decide), xa_n (by decide), xa_s, upd_n hk, xa_n (by decide)]
          · rw [xa_s, upd_n (by omega), xa_s, upd_n (by omega), xa_s, upd_n (by omega), xa_s, upd_n (by omega), xa_n (by decide), xa_n (by decide)]
          · rw [xa_n (by decide), xa_n (by decide), xa_n (by decide), xa_n (by decide), xa_n (by decide), xa_s, upd_s, rc.2]
          · rw [xa_n (by decide), xa_n (by decide), xa_n (by decide), xa_n (by decide), xa_s, upd_s, rc.1]
          · rcases (show d = 0 ∨ d = 1 ∨ d = 2 ∨ d = 3 by omega) with rfl | rfl | rfl | rfl
            · rw [xa_s, upd_n (by omega), xa_s, upd_n (by omega), xa_s, upd_n (by omega), xa_s, upd_s]; show _ = xo (if c / a = 0 then none else some (c - a)); rw [rc.1]; first | (rw [if_pos h33]; rfl) | (rw [if_neg (by omega)]; rfl)
            · rw [xa_s, upd_n (by omega), xa_s, upd_n (by omega), xa_s, upd_s]; show _ = xo (if c % a + 1 < a then some (c + 1) else none); rw [rc.2]; first | (rw [if_pos (by omega)]; rfl) | (rw [if_neg (by omega)]; rfl)
            · rw [xa_s, upd_n (by omega), xa_s, upd_s]; show _ = xo (if c / a + 1 < b then some (c + a) else none); rw [rc.1]; first | (rw [if_pos (by omega)]; rfl) | (rw [if_neg (by omega)]; rfl)
            · rw [xa_s, upd_s]; show _ = xo (if c % a = 0 then none else some (c - 1)); rw [rc.2]; first | (rw [if_pos h114]; rfl) | (rw [if_neg (by omega)]; rfl)
        · skip
          refine xi_iload_n dX1_layCell_117 rfl ?_
          refine xi_iconst (v := 1) dX1_layCell_118 rfl ?_
          refine xe_isub dX1_layCell_119 (v := nI (c - 1)) (pk_sub (b := 1) (by omega)) ?_
          refine xi_goto 124 dX1_layCell_120 (by decide) ?_
          refine xe_iast (c * 4 + 3) dX1_layCell_124 cc6 (by decide) rfl (by omega) ?_
          refine xi_vret dX1_layCell_125 rfl ?_
          refine h _ ⟨rfl, rfl, fun a a4 a5 a6 => ?_, fun k hk => ⟨?_, ?_⟩, fun k hk => ?_⟩ ?_ ?_ (fun d hd => ?_)
          · rw [xa_n a6, xa_n a6, xa_n a6, xa_n a6, xa_n a5, xa_n a4]
          · rw [xa_n (by decide), xa_n (by decide), xa_n (by decide), xa_n (by decide), xa_n (by decide), xa_s, upd_n hk]
          · rw [xa_n (by decide), xa_n (by decide), xa_n (by decide), xa_n (by decide), xa_s, upd_n hk, xa_n (by decide)]
          · rw [xa_s, upd_n (by omega), xa_s, upd_n (by omega), xa_s, upd_n (by omega), xa_s, upd_n (by omega), xa_n (by decide), xa_n (by decide)]
          · rw [xa_n (by decide), xa_n (by decide), xa_n (by decide), xa_n (by decide), xa_n (by decide), xa_s, upd_s, rc.2]
          · rw [xa_n (by decide), xa_n (by decide), xa_n (by decide), xa_n (by decide), xa_s, upd_s, rc.1]
          · rcases (show d = 0 ∨ d = 1 ∨ d = 2 ∨ d = 3 by omega) with rfl | rfl | rfl | rfl
            · rw [xa_s, upd_n (by omega), xa_s, upd_n (by omega), xa_s, upd_n (by omega), xa_s, upd_s]; show _ = xo (if c / a = 0 then none else some (c - a)); rw [rc.1]; first | (rw [if_pos h33]; rfl) | (rw [if_neg (by omega)]; rfl)
            · rw [xa_s, upd_n (by omega), xa_s, upd_n (by omega), xa_s, upd_s]; show _ = xo (if c % a + 1 < a then some (c + 1) else none); rw [rc.2]; first | (rw [if_pos (by omega)]; rfl) | (rw [if_neg (by omega)]; rfl)
            · rw [xa_s, upd_n (by omega), xa_s, upd_s]; show _ = xo (if c / a + 1 < b then some (c + a) else none); rw [rc.1]; first | (rw [if_pos (by omega)]; rfl) | (rw [if_neg (by omega)]; rfl)
            · rw [xa_s, upd_s]; show _ = xo (if c % a = 0 then none else some (c - 1)); rw [rc.2]; first | (rw [if_pos h114]; rfl) | (rw [if_neg (by omega)]; rfl)
    · skip
      refine xi_iload_n dX1_layCell_66 rfl ?_
      refine xi_iconst (v := 1) dX1_layCell_67 rfl ?_
      refine xe_iadd dX1_layCell_68 (v := nI (c + 1)) (nI_add c 1) ?_
      refine xi_goto 73 dX1_layCell_69 (by decide) ?_
      refine xe_iast (c * 4 + 1) dX1_layCell_73 cc6 (by decide) rfl (by omega) ?_
      refine xi_aload_n dX1_layCell_74 rfl ?_
      refine xi_getR dX1_layCell_75 fgX1_24 cc1 rfl ?_
      refine xi_iload_n dX1_layCell_78 rfl ?_
      refine xi_iconst (v := 4) dX1_layCell_79 rfl ?_
      refine xe_imul dX1_layCell_80 (v := nI (c * 4)) (pk_mul c 4) ?_
      refine xi_iconst (v := 2) dX1_layCell_81 rfl ?_
      refine xe_iadd dX1_layCell_82 (v := nI (c * 4 + 2)) (nI_add (c * 4) 2) ?_
      refine xi_iload_n dX1_layCell_83 rfl ?_
      refine xi_aload_n dX1_layCell_84 rfl ?_
      refine xe_getI (v := nI b) dX1_layCell_85 fgX1_37 cc1 rfl hhb ?_
      refine xat 88 rfl ?_
      refine xi_iconst (v := 1) dX1_layCell_88 rfl ?_
      refine xe_isub dX1_layCell_89 (v := nI (b - 1)) (pk_sub (b := 1) (by omega)) ?_
      refine xn_icmp_ge y (b - 1) 102 dX1_layCell_90 (by decide) rfl rfl (by omega) (by omega) (fun h90 => ?_) (fun h90 => ?_)
      · skip
        refine xi_iconst (v := (-1)) dX1_layCell_102 rfl ?_
        refine xe_iast (c * 4 + 2) dX1_layCell_103 cc6 (by decide) rfl (by omega) ?_
        refine xi_aload_n dX1_layCell_104 rfl ?_
        refine xi_getR dX1_layCell_105 fgX1_24 cc1 rfl ?_
        refine xi_iload_n dX1_layCell_108 rfl ?_
        refine xi_iconst (v := 4) dX1_layCell_109 rfl ?_
        refine xe_imul dX1_layCell_110 (v := nI (c * 4)) (pk_mul c 4) ?_
        refine xi_iconst (v := 3) dX1_layCell_111 rfl ?_
        refine xe_iadd dX1_layCell_112 (v := nI (c * 4 + 3)) (nI_add (c * 4) 3) ?_
        refine xi_iload_n dX1_layCell_113 rfl ?_
        refine xn_if_le x 123 dX1_layCell_114 (by decide) rfl (by omega) (fun h114 => ?_) (fun h114 => ?_)
        · skip
          refine xi_iconst (v := (-1)) dX1_layCell_123 rfl ?_
          refine xe_iast (c * 4 + 3) dX1_layCell_124 cc6 (by decide) rfl (by omega) ?_
          refine xi_vret dX1_layCell_125 rfl ?_
          refine h _ ⟨rfl, rfl, fun a a4 a5 a6 => ?_, fun k hk => ⟨?_, ?_⟩, fun k hk => ?_⟩ ?_ ?_ (fun d hd => ?_)
          · rw [xa_n a6, xa_n a6, xa_n a6, xa_n a6, xa_n a5, xa_n a4]
          · rw [xa_n (by decide), xa_n (by decide), xa_n (by decide), xa_n (by decide), xa_n (by decide), xa_s, upd_n hk]
          · rw [xa_n (by decide), xa_n (by decide), xa_n (by decide), xa_n (by decide), xa_s, upd_n hk, xa_n (by decide)]
          · rw [xa_s, upd_n (by omega), xa_s, upd_n (by omega), xa_s, upd_n (by omega), xa_s, upd_n (by omega), xa_n (by decide), xa_n (by decide)]
          · rw [xa_n (by decide), xa_n (by decide), xa_n (by decide), xa_n (by decide), xa_n (by decide), xa_s, upd_s, rc.2]
          · rw [xa_n (by decide), xa_n (by decide), xa_n (by decide), xa_n (by decide), xa_s, upd_s, rc.1]
          · rcases (show d = 0 ∨ d = 1 ∨ d = 2 ∨ d = 3 by omega) with rfl | rfl | rfl | rfl
            · rw [xa_s, upd_n (by omega), xa_s, upd_n (by omega), xa_s, upd_n (by omega), xa_s, upd_s]; show _ = xo (if c / a = 0 then none else some (c - a)); rw [rc.1]; first | (rw [if_pos h33]; rfl) | (rw [if_neg (by omega)]; rfl)
            · rw [xa_s, upd_n (by omega), xa_s, upd_n (by omega), xa_s, upd_s]; show _ = xo (if c % a + 1 < a then some (c + 1) else none); rw [rc.2]; first | (rw [if_pos (by omega)]; rfl) | (rw [if_neg (by omega)]; rfl)
            · rw [xa_s, upd_n (by omega), xa_s, upd_s]; show _ = xo (if c / a + 1 < b then some (c + a) else none); rw [rc.1]; first | (rw [if_pos (by omega)]; rfl) | (rw [if_neg (by omega)]; rfl)
            · rw [xa_s, upd_s]; show _ = xo (if c % a = 0 then none else some (c - 1)); rw [rc.2]; first | (rw [if_pos h114]; rfl) | (rw [if_neg (by omega)]; rfl)
        · skip
          refine xi_iload_n dX1_layCell_117 rfl ?_
          refine xi_iconst (v := 1) dX1_layCell_118 rfl ?_
          refine xe_isub dX1_layCell_119 (v := nI (c - 1)) (pk_sub (b := 1) (by omega)) ?_
          refine xi_goto 124 dX1_layCell_120 (by decide) ?_
          refine xe_iast (c * 4 + 3) dX1_layCell_124 cc6 (by decide) rfl (by omega) ?_
          refine xi_vret dX1_layCell_125 rfl ?_
          refine h _ ⟨rfl, rfl, fun a a4 a5 a6 => ?_, fun k hk => ⟨?_, ?_⟩, fun k hk => ?_⟩ ?_ ?_ (fun d hd => ?_)
          · rw [xa_n a6, xa_n a6, xa_n a6, xa_n a6, xa_n a5, xa_n a4]
          · rw [xa_n (by decide), xa_n (by decide), xa_n (by decide), xa_n (by decide), xa_n (by decide), xa_s, upd_n hk]
          · rw [xa_n (by decide), xa_n (by decide), xa_n (by decide), xa_n (by decide), xa_s, upd_n hk, xa_n (by decide)]
          · rw [xa_s, upd_n (by omega), xa_s, upd_n (by omega), xa_s, upd_n (by omega), xa_s, upd_n (by omega), xa_n (by decide), xa_n (by decide)]
          · rw [xa_n (by decide), xa_n (by decide), xa_n (by decide), xa_n (by decide), xa_n (by decide), xa_s, upd_s, rc.2]
          · rw [xa_n (by decide), xa_n (by decide), xa_n (by decide), xa_n (by decide), xa_s, upd_s, rc.1]
          · rcases (show d = 0 ∨ d = 1 ∨ d = 2 ∨ d = 3 by omega) with rfl | rfl | rfl | rfl
            · rw [xa_s, upd_n (by omega), xa_s, upd_n (by omega), xa_s, upd_n (by omega), xa_s, upd_s]; show _ = xo (if c / a = 0 then none else some (c - a)); rw [rc.1]; first | (rw [if_pos h33]; rfl) | (rw [if_neg (by omega)]; rfl)
            · rw [xa_s, upd_n (by omega), xa_s, upd_n (by omega), xa_s, upd_s]; show _ = xo (if c % a + 1 < a then some (c + 1) else none); rw [rc.2]; first | (rw [if_pos (by omega)]; rfl) | (rw [if_neg (by omega)]; rfl)
            · rw [xa_s, upd_n (by omega), xa_s, upd_s]; show _ = xo (if c / a + 1 < b then some (c + a) else none); rw [rc.1]; first | (rw [if_pos (by omega)]; rfl) | (rw [if_neg (by omega)]; rfl)
            · rw [xa_s, upd_s]; show _ = xo (if c % a = 0 then none else some (c - 1)); rw [rc.2]; first | (rw [if_pos h114]; rfl) | (rw [if_neg (by omega)]; rfl)
      · skip
        refine xi_iload_n dX1_layCell_93 rfl ?_
        refine xi_aload_n dX1_layCell_94 rfl ?_
        refine xe_getI (v := nI a) dX1_layCell_95 fgX1_33 cc1 rfl hwa ?_
        refine xe_iadd dX1_layCell_98 (v := nI (c + a)) (nI_add c a) ?_
        refine xi_goto 103 dX1_layCell_99 (by decide) ?_
        refine xe_iast (c * 4 + 2) dX1_layCell_103 cc6 (by decide) rfl (by omega) ?_
        refine xi_aload_n dX1_layCell_104 rfl ?_
        refine xi_getR dX1_layCell_105 fgX1_24 cc1 rfl ?_
        refine xi_iload_n dX1_layCell_108 rfl ?_
        refine xi_iconst (v := 4) dX1_layCell_109 rfl ?_
        refine xe_imul dX1_layCell_110 (v := nI (c * 4)) (pk_mul c 4) ?_
        refine xi_iconst (v := 3) dX1_layCell_111 rfl ?_
        refine xe_iadd dX1_layCell_112 (v := nI (c * 4 + 3)) (nI_add (c * 4) 3) ?_
        refine xi_iload_n dX1_layCell_113 rfl ?_
        refine xn_if_le x 123 dX1_layCell_114 (by decide) rfl (by omega) (fun h114 => ?_) (fun h114 => ?_)
        · skip
          refine xi_iconst (v := (-1)) dX1_layCell_123 rfl ?_
          refine xe_iast (c * 4 + 3) dX1_layCell_124 cc6 (by decide) rfl (by omega) ?_
          refine xi_vret dX1_layCell_125 rfl ?_
          refine h _ ⟨rfl, rfl, fun a a4 a5 a6 => ?_, fun k hk => ⟨?_, ?_⟩, fun k hk => ?_⟩ ?_ ?_ (fun d hd => ?_)
          · rw [xa_n a6, xa_n a6, xa_n a6, xa_n a6, xa_n a5, xa_n a4]
          · rw [xa_n (by decide), xa_n (by decide), xa_n (by decide), xa_n (by decide), xa_n (by decide), xa_s, upd_n hk]
          · rw [xa_n (by decide), xa_n (by decide), xa_n (by decide), xa_n (by decide), xa_s, upd_n hk, xa_n (by decide)]
          · rw [xa_s, upd_n (by omega), xa_s, upd_n (by omega), xa_s, upd_n (by omega), xa_s, upd_n (by omega), xa_n (by decide), xa_n (by decide)]
          · rw [xa_n (by decide), xa_n (by decide), xa_n (by decide), xa_n (by decide), xa_n (by decide), xa_s, upd_s, rc.2]
          · rw [xa_n (by decide), xa_n (by decide), xa_n (by decide), xa_n (by decide), xa_s, upd_s, rc.1]
          · rcases (show d = 0 ∨ d = 1 ∨ d = 2 ∨ d = 3 by omega) with rfl | rfl | rfl | rfl
            · rw [xa_s, upd_n (by omega), xa_s, upd_n (by omega), xa_s, upd_n (by omega), xa_s, upd_s]; show _ = xo (if c / a = 0 then none else some (c - a)); rw [rc.1]; first | (rw [if_pos h33]; rfl) | (rw [if_neg (by omega)]; rfl)
            · rw [xa_s, upd_n (by omega), xa_s, upd_n (by omega), xa_s, upd_s]; show _ = xo (if c % a + 1 < a then some (c + 1) else none); rw [rc.2]; first | (rw [if_pos (by omega)]; rfl) | (rw [if_neg (by omega)]; rfl)
            · rw [xa_s, upd_n (by omega), xa_s, upd_s]; show _ = xo (if c / a + 1 < b then some (c + a) else none); rw [rc.1]; first | (rw [if_pos (by omega)]; rfl) | (rw [if_neg (by omega)]; rfl)
            · rw [xa_s, upd_s]; show _ = xo (if c % a = 0 then none else some (c - 1)); rw [rc.2]; first | (rw [if_pos h114]; rfl) | (rw [if_neg (by omega)]; rfl)
        · skip
          refine xi_iload_n dX1_layCell_117 rfl ?_
          refine xi_iconst (v := 1) dX1_layCell_118 rfl ?_
          refine xe_isub dX1_layCell_119 (v := nI (c - 1)) (pk_sub (b := 1) (by omega)) ?_
          refine xi_goto 124 dX1_layCell_120 (by decide) ?_
          refine xe_iast (c * 4 + 3) dX1_layCell_124 cc6 (by decide) rfl (by omega) ?_
          refine xi_vret dX1_layCell_125 rfl ?_
          refine h _ ⟨rfl, rfl, fun a a4 a5 a6 => ?_, fun k hk => ⟨?_, ?_⟩, fun k hk => ?_⟩ ?_ ?_ (fun d hd => ?_)
          · rw [xa_n a6, xa_n a6, xa_n a6, xa_n a6, xa_n a5, xa_n a4]
          · rw [xa_n (by decide), xa_n (by decide), xa_n (by decide), xa_n (by decide), xa_n (by decide), xa_s, upd_n hk]
          · rw [xa_n (by decide), xa_n (by decide), xa_n (by decide), xa_n (by decide), xa_s, upd_n hk, xa_n (by decide)]
          · rw [xa_s, upd_n (by omega), xa_s, upd_n (by omega), xa_s, upd_n (by omega), xa_s, upd_n (by omega), xa_n (by decide), xa_n (by decide)]
          · rw [xa_n (by decide), xa_n (by decide), xa_n (by decide), xa_n (by decide), xa_n (by decide), xa_s, upd_s, rc.2]
          · rw [xa_n (by decide), xa_n (by decide), xa_n (by decide), xa_n (by decide), xa_s, upd_s, rc.1]
          · rcases (show d = 0 ∨ d = 1 ∨ d = 2 ∨ d = 3 by omega) with rfl | rfl | rfl | rfl
            · rw [xa_s, upd_n (by omega), xa_s, upd_n (by omega), xa_s, upd_n (by omega), xa_s, upd_s]; show _ = xo (if c / a = 0 then none else some (c - a)); rw [rc.1]; first | (rw [if_pos h33]; rfl) | (rw [if_neg (by omega)]; rfl)
            · rw [xa_s, upd_n (by omega), xa_s, upd_n (by omega), xa_s, upd_s]; show _ = xo (if c % a + 1 < a then some (c + 1) else none); rw [rc.2]; first | (rw [if_pos (by omega)]; rfl) | (rw [if_neg (by omega)]; rfl)
            · rw [xa_s, upd_n (by omega), xa_s, upd_s]; show _ = xo (if c / a + 1 < b then some (c + a) else none); rw [rc.1]; first | (rw [if_pos (by omega)]; rfl) | (rw [if_neg (by omega)]; rfl)
            · rw [xa_s, upd_s]; show _ = xo (if c % a = 0 then none else some (c - 1)); rw [rc.2]; first | (rw [if_pos h114]; rfl) | (rw [if_neg (by omega)]; rfl)
  · skip
    refine xi_iload_n dX1_layCell_36 rfl ?_
    refine xi_aload_n dX1_layCell_37 rfl ?_
    refine xe_getI (v := nI a) dX1_layCell_38 fgX1_33 cc1 rfl hwa ?_
    refine xe_isub dX1_layCell_41 (v := nI (c - a)) (pk_sub (by omega)) ?_
    refine xi_goto 46 dX1_layCell_42 (by decide) ?_
    refine xe_iast (c * 4 + 0) dX1_layCell_46 cc6 (by decide) rfl (by omega) ?_
    refine xi_aload_n dX1_layCell_47 rfl ?_
    refine xi_getR dX1_layCell_48 fgX1_24 cc1 rfl ?_
    refine xi_iload_n dX1_layCell_51 rfl ?_
    refine xi_iconst (v := 4) dX1_layCell_52 rfl ?_
    refine xe_imul dX1_layCell_53 (v := nI (c * 4)) (pk_mul c 4) ?_
    refine xi_iconst (v := 1) dX1_layCell_54 rfl ?_
    refine xe_iadd dX1_layCell_55 (v := nI (c * 4 + 1)) (nI_add (c * 4) 1) ?_
    refine xi_iload_n dX1_layCell_56 rfl ?_
    refine xi_aload_n dX1_layCell_57 rfl ?_
    refine xe_getI (v := nI a) dX1_layCell_58 fgX1_33 cc1 rfl hwa ?_
    refine xat 61 rfl ?_
    refine xi_iconst (v := 1) dX1_layCell_61 rfl ?_
    refine xe_isub dX1_layCell_62 (v := nI (a - 1)) (pk_sub (b := 1) (by omega)) ?_
    refine xn_icmp_ge x (a - 1) 72 dX1_layCell_63 (by decide) rfl rfl (by omega) (by omega) (fun h63 => ?_) (fun h63 => ?_)
    · skip
      refine xi_iconst (v := (-1)) dX1_layCell_72 rfl ?_
      refine xe_iast (c * 4 + 1) dX1_layCell_73 cc6 (by decide) rfl (by omega) ?_
      refine xi_aload_n dX1_layCell_74 rfl ?_
      refine xi_getR dX1_layCell_75 fgX1_24 cc1 rfl ?_
      refine xi_iload_n dX1_layCell_78 rfl ?_
      refine xi_iconst (v := 4) dX1_layCell_79 rfl ?_
      refine xe_imul dX1_layCell_80 (v := nI (c * 4)) (pk_mul c 4) ?_
      refine xi_iconst (v := 2) dX1_layCell_81 rfl ?_
      refine xe_iadd dX1_layCell_82 (v := nI (c * 4 + 2)) (nI_add (c * 4) 2) ?_
      refine xi_iload_n dX1_layCell_83 rfl ?_
      refine xi_aload_n dX1_layCell_84 rfl ?_
      refine xat 85 rfl ?_
      refine xe_getI (v := nI b) dX1_layCell_85 fgX1_37 cc1 rfl hhb ?_
      refine xi_iconst (v := 1) dX1_layCell_88 rfl ?_
      refine xe_isub dX1_layCell_89 (v := nI (b - 1)) (pk_sub (b := 1) (by omega)) ?_
      refine xn_icmp_ge y (b - 1) 102 dX1_layCell_90 (by decide) rfl rfl (by omega) (by omega) (fun h90 => ?_) (fun h90 => ?_)
      · skip
        refine xi_iconst (v := (-1)) dX1_layCell_102 rfl ?_
        refine xe_iast (c * 4 + 2) dX1_layCell_103 cc6 (by decide) rfl (by omega) ?_
        refine xi_aload_n dX1_layCell_104 rfl ?_
        refine xi_getR dX1_layCell_105 fgX1_24 cc1 rfl ?_
        refine xi_iload_n dX1_layCell_108 rfl ?_
        refine xi_iconst (v := 4) dX1_layCell_109 rfl ?_
        refine xe_imul dX1_layCell_110 (v := nI (c * 4)) (pk_mul c 4) ?_
        refine xi_iconst (v := 3) dX1_layCell_111 rfl ?_
        refine xe_iadd dX1_layCell_112 (v := nI (c * 4 + 3)) (nI_add (c * 4) 3) ?_
        refine xi_iload_n dX1_layCell_113 rfl ?_
        refine xn_if_le x 123 dX1_layCell_114 (by decide) rfl (by omega) (fun h114 => ?_) (fun h114 => ?_)
        · skip
          refine xi_iconst (v := (-1)) dX1_layCell_123 rfl ?_
          refine xe_iast (c * 4 + 3) dX1_layCell_124 cc6 (by decide) rfl (by omega) ?_
          refine xi_vret dX1_layCell_125 rfl ?_
          refine h _ ⟨rfl, rfl, fun a a4 a5 a6 => ?_, fun k hk => ⟨?_, ?_⟩, fun k hk => ?_⟩ ?_ ?_ (fun d hd => ?_)
          · rw [xa_n a6, xa_n a6, xa_n a6, xa_n a6, xa_n a5, xa_n a4]
          · rw [xa_n (by decide), xa_n (by decide), xa_n (by decide), xa_n (by decide), xa_n (by decide), xa_s, upd_n hk]
          · rw [xa_n (by decide), xa_n (by decide), xa_n (by decide), xa_n (by decide), xa_s, upd_n hk, xa_n (by decide)]
          · rw [xa_s, upd_n (by omega), xa_s, upd_n (by omega), xa_s, upd_n (by omega), xa_s, upd_n (by omega), xa_n (by decide), xa_n (by decide)]
          · rw [xa_n (by decide), xa_n (by decide), xa_n (by decide), xa_n (by decide), xa_n (by decide), xa_s, upd_s, rc.2]
          · rw [xa_n (by decide), xa_n (by decide), xa_n (by decide), xa_n (by decide), xa_s, upd_s, rc.1]
          · rcases (show d = 0 ∨ d = 1 ∨ d = 2 ∨ d = 3 by omega) with rfl | rfl | rfl | rfl
            · rw [xa_s, upd_n (by omega), xa_s, upd_n (by omega), xa_s, upd_n (by omega), xa_s, upd_s]; show _ = xo (if c / a = 0 then none else some (c - a)); rw [rc.1]; first | (rw [if_pos h33]; rfl) | (rw [if_neg (by omega)]; rfl)
            · rw [xa_s, upd_n (by omega), xa_s, upd_n (by omega), xa_s, upd_s]; show _ = xo (if c % a + 1 < a then some (c + 1) else none); rw [rc.2]; first | (rw [if_pos (by omega)]; rfl) | (rw [if_neg (by omega)]; rfl)
            · rw [xa_s, upd_n (by omega), xa_s, upd_s]; show _ = xo (if c / a + 1 < b then some (c + a) else none); rw [rc.1]; first | (rw [if_pos (by omega)]; rfl) | (rw [if_neg (by omega)]; rfl)
            · rw [xa_s, upd_s]; show _ = xo (if c % a = 0 then none else some (c - 1)); rw [rc.2]; first | (rw [if_pos h114]; rfl) | (rw [if_neg (by omega)]; rfl)
        · skip
          refine xi_iload_n dX1_layCell_117 rfl ?_
          refine xi_iconst (v := 1) dX1_layCell_118 rfl ?_
          refine xe_isub dX1_layCell_119 (v := nI (c - 1)) (pk_sub (b := 1) (by omega)) ?_
          refine xi_goto 124 dX1_layCell_120 (by decide) ?_
          refine xe_iast (c * 4 + 3) dX1_layCell_124 cc6 (by decide) rfl (by omega) ?_
          refine xi_vret dX1_layCell_125 rfl ?_
          refine h _ ⟨rfl, rfl, fun a a4 a5 a6 => ?_, fun k hk => ⟨?_, ?_⟩, fun k hk => ?_⟩ ?_ ?_ (fun d hd => ?_)
          · rw [xa_n a6, xa_n a6, xa_n a6, xa_n a6, xa_n a5, xa_n a4]
          · rw [xa_n (by decide), xa_n (by decide), xa_n (by decide), xa_n (by decide), xa_n (by decide), xa_s, upd_n hk]
          · rw [xa_n (by decide), xa_n (by decide), xa_n (by decide), xa_n (by decide), xa_s, upd_n hk, xa_n (by decide)]
          · rw [xa_s, upd_n (by omega), xa_s, upd_n (by omega), xa_s, upd_n (by omega), xa_s, upd_n (by omega), xa_n (by decide), xa_n (by decide)]
          · rw [xa_n (by decide), xa_n (by decide), xa_n (by decide), xa_n (by decide), xa_n (by decide), xa_s, upd_s, rc.2]
          · rw [xa_n (by decide), xa_n (by decide), xa_n (by decide), xa_n (by decide), xa_s, upd_s, rc.1]
          · rcases (show d = 0 ∨ d = 1 ∨ d = 2 ∨ d = 3 by omega) with rfl | rfl | rfl | rfl
            · rw [xa_s, upd_n (by omega), xa_s, upd_n (by omega), xa_s, upd_n (by omega), xa_s, upd_s]; show _ = xo (if c / a = 0 then none else some (c - a)); rw [rc.1]; first | (rw [if_pos h33]; rfl) | (rw [if_neg (by omega)]; rfl)
            · rw [xa_s, upd_n (by omega), xa_s, upd_n (by omega), xa_s, upd_s]; show _ = xo (if c % a + 1 < a then some (c + 1) else none); rw [rc.2]; first | (rw [if_pos (by omega)]; rfl) | (rw [if_neg (by omega)]; rfl)
            · rw [xa_s, upd_n (by omega), xa_s, upd_s]; show _ = xo (if c / a + 1 < b then some (c + a) else none); rw [rc.1]; first | (rw [if_pos (by omega)]; rfl) | (rw [if_neg (by omega)]; rfl)
            · rw [xa_s, upd_s]; show _ = xo (if c % a = 0 then none else some (c - 1)); rw [rc.2]; first | (rw [if_pos h114]; rfl) | (rw [if_neg (by omega)]; rfl)
      · skip
        refine xi_iload_n dX1_layCell_93 rfl ?_
        refine xi_aload_n dX1_layCell_94 rfl ?_
        refine xe_getI (v := nI a) dX1_layCell_95 fgX1_33 cc1 rfl hwa ?_
        refine xe_iadd dX1_layCell_98 (v := nI (c + a)) (nI_add c a) ?_
        refine xi_goto 103 dX1_layCell_99 (by decide) ?_
        refine xe_iast (c * 4 + 2) dX1_layCell_103 cc6 (by decide) rfl (by omega) ?_
        refine xi_aload_n dX1_layCell_104 rfl ?_
        refine xi_getR dX1_layCell_105 fgX1_24 cc1 rfl ?_
        refine xi_iload_n dX1_layCell_108 rfl ?_
        refine xi_iconst (v := 4) dX1_layCell_109 rfl ?_
        refine xe_imul dX1_layCell_110 (v := nI (c * 4)) (pk_mul c 4) ?_
        refine xi_iconst (v := 3) dX1_layCell_111 rfl ?_
        refine xe_iadd dX1_layCell_112 (v := nI (c * 4 + 3)) (nI_add (c * 4) 3) ?_
        refine xi_iload_n dX1_layCell_113 rfl ?_
        refine xn_if_le x 123 dX1_layCell_114 (by decide) rfl (by omega) (fun h114 => ?_) (fun h114 => ?_)
        · skip
          refine xi_iconst (v := (-1)) dX1_layCell_123 rfl ?_
          refine xe_iast (c * 4 + 3) dX1_layCell_124 cc6 (by decide) rfl (by omega) ?_
          refine xi_vret dX1_layCell_125 rfl ?_
          refine h _ ⟨rfl, rfl, fun a a4 a5 a6 => ?_, fun k hk => ⟨?_, ?_⟩, fun k hk => ?_⟩ ?_ ?_ (fun d hd => ?_)
          · rw [xa_n a6, xa_n a6, xa_n a6, xa_n a6, xa_n a5, xa_n a4]
          · rw [xa_n (by decide), xa_n (by decide), xa_n (by decide), xa_n (by decide), xa_n (by decide), xa_s, upd_n hk]
          · rw [xa_n (by decide), xa_n (by decide), xa_n (by decide), xa_n (by decide), xa_s, upd_n hk, xa_n (by decide)]
          · rw [xa_s, upd_n (by omega), xa_s, upd_n (by omega), xa_s, upd_n (by omega), xa_s, upd_n (by omega), xa_n (by decide), xa_n (by decide)]
          · rw [xa_n (by decide), xa_n (by decide), xa_n (by decide), xa_n (by decide), xa_n (by decide), xa_s, upd_s, rc.2]
          · rw [xa_n (by decide), xa_n (by decide), xa_n (by decide), xa_n (by decide), xa_s, upd_s, rc.1]
          · rcases (show d = 0 ∨ d = 1 ∨ d = 2 ∨ d = 3 by omega) with rfl | rfl | rfl | rfl
            · rw [xa_s, upd_n (by omega), xa_s, upd_n (by omega), xa_s, upd_n (by omega), xa_s, upd_s]; show _ = xo (if c / a = 0 then none else some (c - a)); rw [rc.1]; first | (rw [if_pos h33]; rfl) | (rw [if_neg (by omega)]; rfl)
            · rw [xa_s, upd_n (by omega), xa_s, upd_n (by omega), xa_s, upd_s]; show _ = xo (if c % a + 1 < a then some (c + 1) else none); rw [rc.2]; first | (rw [if_pos (by omega)]; rfl) | (rw [if_neg (by omega)]; rfl)
            · rw [xa_s, upd_n (by omega), xa_s, upd_s]; show _ = xo (if c / a + 1 < b then some (c + a) else none); rw [rc.1]; first | (rw [if_pos (by omega)]; rfl) | (rw [if_neg (by omega)]; rfl)
            · rw [xa_s, upd_s]; show _ = xo (if c % a = 0 then none else some (c - 1)); rw [rc.2]; first | (rw [if_pos h114]; rfl) | (rw [if_neg (by omega)]; rfl)
        · skip
          refine xi_iload_n dX1_layCell_117 rfl ?_
          refine xi_iconst (v := 1) dX1_layCell_118 rfl ?_
          refine xe_isub dX1_layCell_119 (v := nI (c - 1)) (pk_sub (b := 1) (by omega)) ?_
          refine xi_goto 124 dX1_layCell_120 (by decide) ?_
          refine xe_iast (c * 4 + 3) dX1_layCell_124 cc6 (by decide) rfl (by omega) ?_
          refine xi_vret dX1_layCell_125 rfl ?_
          refine h _ ⟨rfl, rfl, fun a a4 a5 a6 => ?_, fun k hk => ⟨?_, ?_⟩, fun k hk => ?_⟩ ?_ ?_ (fun d hd => ?_)
          · rw [xa_n a6, xa_n a6, xa_n a6, xa_n a6, xa_n a5, xa_n a4]
          · rw [xa_n (by decide), xa_n (by decide), xa_n (by decide), xa_n (by decide), xa_n (by decide), xa_s, upd_n hk]
          · rw [xa_n (by decide), xa_n (by decide), xa_n (by decide), xa_n (by decide), xa_s, upd_n hk, xa_n (by decide)]
          · rw [xa_s, upd_n (by omega), xa_s, upd_n (by omega), xa_s, upd_n (by omega), xa_s, upd_n (by omega), xa_n (by decide), xa_n (by decide)]
          · rw [xa_n (by decide), xa_n (by decide), xa_n (by decide), xa_n (by decide), xa_n (by decide), xa_s, upd_s, rc.2]
          · rw [xa_n (by decide), xa_n (by decide), xa_n (by decide), xa_n (by decide), xa_s, upd_s, rc.1]
          · rcases (show d = 0 ∨ d = 1 ∨ d = 2 ∨ d = 3 by omega) with rfl | rfl | rfl | rfl
            · rw [xa_s, upd_n (by omega), xa_s, upd_n (by omega), xa_s, upd_n (by omega), xa_s, upd_s]; show _ = xo (if c / a = 0 then none else some (c - a)); rw [rc.1]; first | (rw [if_pos h33]; rfl) | (rw [if_neg (by omega)]; rfl)
            · rw [xa_s, upd_n (by omega), xa_s, upd_n (by omega), xa_s, upd_s]; show _ = xo (if c % a + 1 < a then some (c + 1) else none); rw [rc.2]; first | (rw [if_pos (by omega)]; rfl) | (rw [if_neg (by omega)]; rfl)
            · rw [xa_s, upd_n (by omega), xa_s, upd_s]; show _ = xo (if c / a + 1 < b then some (c + a) else none); rw [rc.1]; first | (rw [if_pos (by omega)]; rfl) | (rw [if_neg (by omega)]; rfl)
            · rw [xa_s, upd_s]; show _ = xo (if c % a = 0 then none else some (c - 1)); rw [rc.2]; first | (rw [if_pos h114]; rfl) | (rw [if_neg (by omega)]; rfl)
    · skip
      refine xi_iload_n dX1_layCell_66 rfl ?_
      refine xi_iconst (v := 1) dX1_layCell_67 rfl ?_
      refine xe_iadd dX1_layCell_68 (v := nI (c + 1)) (nI_add c 1) ?_
      refine xi_goto 73 dX1_layCell_69 (by decide) ?_
      refine xe_iast (c * 4 + 1) dX1_layCell_73 cc6 (by decide) rfl (by omega) ?_
      refine xi_aload_n dX1_layCell_74 rfl ?_
      refine xi_getR dX1_layCell_75 fgX1_24 cc1 rfl ?_
      refine xi_iload_n dX1_layCell_78 rfl ?_
      refine xi_iconst (v := 4) dX1_layCell_79 rfl ?_
      refine xe_imul dX1_layCell_80 (v := nI (c * 4)) (pk_mul c 4) ?_
      refine xi_iconst (v := 2) dX1_layCell_81 rfl ?_
      refine xe_iadd dX1_layCell_82 (v := nI (c * 4 + 2)) (nI_add (c * 4) 2) ?_
      refine xi_iload_n dX1_layCell_83 rfl ?_
      refine xi_aload_n dX1_layCell_84 rfl ?_
      refine xe_getI (v := nI b) dX1_layCell_85 fgX1_37 cc1 rfl hhb ?_
      refine xat 88 rfl ?_
      refine xi_iconst (v := 1) dX1_layCell_88 rfl ?_
      refine xe_isub dX1_layCell_89 (v := nI (b - 1)) (pk_sub (b := 1) (by omega)) ?_
      refine xn_icmp_ge y (b - 1) 102 dX1_layCell_90 (by decide) rfl rfl (by omega) (by omega) (fun h90 => ?_) (fun h90 => ?_)
      · skip
        refine xi_iconst (v := (-1)) dX1_layCell_102 rfl ?_
        refine xe_iast (c * 4 + 2) dX1_layCell_103 cc6 (by decide) rfl (by omega) ?_
        refine xi_aload_n dX1_layCell_104 rfl ?_
        refine xi_getR dX1_layCell_105 fgX1_24 cc1 rfl ?_
        refine xi_iload_n dX1_layCell_108 rfl ?_
        refine xi_iconst (v := 4) dX1_layCell_109 rfl ?_
        refine xe_imul dX1_layCell_110 (v := nI (c * 4)) (pk_mul c 4) ?_
        refine xi_iconst (v := 3) dX1_layCell_111 rfl ?_
        refine xe_iadd dX1_layCell_112 (v := nI (c * 4 + 3)) (nI_add (c * 4) 3) ?_
        refine xi_iload_n dX1_layCell_113 rfl ?_
        refine xn_if_le x 123 dX1_layCell_114 (by decide) rfl (by omega) (fun h114 => ?_) (fun h114 => ?_)
        · skip
          refine xi_iconst (v := (-1)) dX1_layCell_123 rfl ?_
          refine xe_iast (c * 4 + 3) dX1_layCell_124 cc6 (by decide) rfl (by omega) ?_
          refine xi_vret dX1_layCell_125 rfl ?_
          refine h _ ⟨rfl, rfl, fun a a4 a5 a6 => ?_, fun k hk => ⟨?_, ?_⟩, fun k hk => ?_⟩ ?_ ?_ (fun d hd => ?_)
          · rw [xa_n a6, xa_n a6, xa_n a6, xa_n a6, xa_n a5, xa_n a4]
          · rw [xa_n (by decide), xa_n (by decide), xa_n (by decide), xa_n (by decide), xa_n (by decide), xa_s, upd_n hk]
          · rw [xa_n (by decide), xa_n (by decide), xa_n (by decide), xa_n (by decide), xa_s, upd_n hk, xa_n (by decide)]
          · rw [xa_s, upd_n (by omega), xa_s, upd_n (by omega), xa_s, upd_n (by omega), xa_s, upd_n (by omega), xa_n (by decide), xa_n (by decide)]
          · rw [xa_n (by decide), xa_n (by decide), xa_n (by decide), xa_n (by decide), xa_n (by decide), xa_s, upd_s, rc.2]
          · rw [xa_n (by decide), xa_n (by decide), xa_n (by decide), xa_n (by decide), xa_s, upd_s, rc.1]
          · rcases (show d = 0 ∨ d = 1 ∨ d = 2 ∨ d = 3 by omega) with rfl | rfl | rfl | rfl
            · rw [xa_s, upd_n (by omega), xa_s, upd_n (by omega), xa_s, upd_n (by omega), xa_s, upd_s]; show _ = xo (if c / a = 0 then none else some (c - a)); rw [rc.1]; first | (rw [if_pos h33]; rfl) | (rw [if_neg (by omega)]; rfl)
            · rw [xa_s, upd_n (by omega), xa_s, upd_n (by omega), xa_s, upd_s]; show _ = xo (if c % a + 1 < a then some (c + 1) else none); rw [rc.2]; first | (rw [if_pos (by omega)]; rfl) | (rw [if_neg (by omega)]; rfl)
            · rw [xa_s, upd_n (by omega), xa_s, upd_s]; show _ = xo (if c / a + 1 < b then some (c + a) else none); rw [rc.1]; first | (rw [if_pos (by omega)]; rfl) | (rw [if_neg (by omega)]; rfl)
            · rw [xa_s, upd_s]; show _ = xo (if c % a = 0 then none else some (c - 1)); rw [rc.2]; first | (rw [if_pos h114]; rfl) | (rw [if_neg (by omega)]; rfl)
        · skip
          refine xi_iload_n dX1_layCell_117 rfl ?_
          refine xi_iconst (v := 1) dX1_layCell_118 rfl ?_
          refine xe_isub dX1_layCell_119 (v := nI (c - 1)) (pk_sub (b := 1) (by omega)) ?_
          refine xi_goto 124 dX1_layCell_120 (by decide) ?_
          refine xe_iast (c * 4 + 3) dX1_layCell_124 cc6 (by decide) rfl (by omega) ?_
          refine xi_vret dX1_layCell_125 rfl ?_
          refine h _ ⟨rfl, rfl, fun a a4 a5 a6 => ?_, fun k hk => ⟨?_, ?_⟩, fun k hk => ?_⟩ ?_ ?_ (fun d hd => ?_)
          · rw [xa_n a6, xa_n a6, xa_n a6, xa_n a6, xa_n a5, xa_n a4]
          · rw [xa_n (by decide), xa_n (by decide), xa_n (by decide), xa_n (by decide), xa_n (by decide), xa_s, upd_n hk]
          · rw [xa_n (by decide), xa_n (by decide), xa_n (by decide), xa_n (by decide), xa_s, upd_n hk, xa_n (by decide)]
          · rw [xa_s, upd_n (by omega), xa_s, upd_n (by omega), xa_s, upd_n (by omega), xa_s, upd_n (by omega), xa_n (by decide), xa_n (by decide)]
          · rw [xa_n (by decide), xa_n (by decide), xa_n (by decide), xa_n (by decide), xa_n (by decide), xa_s, upd_s, rc.2]
          · rw [xa_n (by decide), xa_n (by decide), xa_n (by decide), xa_n (by decide), xa_s, upd_s, rc.1]
          · rcases (show d = 0 ∨ d = 1 ∨ d = 2 ∨ d = 3 by omega) with rfl | rfl | rfl | rfl
            · rw [xa_s, upd_n (by omega), xa_s, upd_n (by omega), xa_s, upd_n (by omega), xa_s, upd_s]; show _ = xo (if c / a = 0 then none else some (c - a)); rw [rc.1]; first | (rw [if_pos h33]; rfl) | (rw [if_neg (by omega)]; rfl)
            · rw [xa_s, upd_n (by omega), xa_s, upd_n (by omega), xa_s, upd_s]; show _ = xo (if c % a + 1 < a then some (c + 1) else none); rw [rc.2]; first | (rw [if_pos (by omega)]; rfl) | (rw [if_neg (by omega)]; rfl)
            · rw [xa_s, upd_n (by omega), xa_s, upd_s]; show _ = xo (if c / a + 1 < b then some (c + a) else none); rw [rc.1]; first | (rw [if_pos (by omega)]; rfl) | (rw [if_neg (by omega)]; rfl)
            · rw [xa_s, upd_s]; show _ = xo (if c % a = 0 then none else some (c - 1)); rw [rc.2]; first | (rw [if_pos h114]; rfl) | (rw [if_neg (by omega)]; rfl)
      · skip
        refine xi_iload_n dX1_layCell_93 rfl ?_
        refine xi_aload_n dX1_layCell_94 rfl ?_
        refine xe_getI (v := nI a) dX1_layCell_95 fgX1_33 cc1 rfl hwa ?_
        refine xe_iadd dX1_layCell_98 (v := nI (c + a)) (nI_add c a) ?_
        refine xi_goto 103 dX1_layCell_99 (by decide) ?_
        refine xe_iast (c * 4 + 2) dX1_layCell_103 cc6 (by decide) rfl (by omega) ?_
        refine xi_aload_n dX1_layCell_104 rfl ?_
        refine xi_getR dX1_layCell_105 fgX1_24 cc1 rfl ?_
        refine xi_iload_n dX1_layCell_108 rfl ?_
        refine xi_iconst (v := 4) dX1_layCell_109 rfl ?_
        refine xe_imul dX1_layCell_110 (v := nI (c * 4)) (pk_mul c 4) ?_
        refine xi_iconst (v := 3) dX1_layCell_111 rfl ?_
        refine xe_iadd dX1_layCell_112 (v := nI (c * 4 + 3)) (nI_add (c * 4) 3) ?_
        refine xi_iload_n dX1_layCell_113 rfl ?_
        refine xn_if_le x 123 dX1_layCell_114 (by decide) rfl (by omega) (fun h114 => ?_) (fun h114 => ?_)
        · skip
          refine xi_iconst (v := (-1)) dX1_layCell_123 rfl ?_
          refine xe_iast (c * 4 + 3) dX1_layCell_124 cc6 (by decide) rfl (by omega) ?_
          refine xi_vret dX1_layCell_125 rfl ?_
          refine h _ ⟨rfl, rfl, fun a a4 a5 a6 => ?_, fun k hk => ⟨?_, ?_⟩, fun k hk => ?_⟩ ?_ ?_ (fun d hd => ?_)
          · rw [xa_n a6, xa_n a6, xa_n a6, xa_n a6, xa_n a5, xa_n a4]
          · rw [xa_n (by decide), xa_n (by decide), xa_n (by decide), xa_n (by decide), xa_n (by decide), xa_s, upd_n hk]
          · rw [xa_n (by decide), xa_n (by decide), xa_n (by decide), xa_n (by decide), xa_s, upd_n hk, xa_n (by decide)]
          · rw [xa_s, upd_n (by omega), xa_s, upd_n (by omega), xa_s, upd_n (by omega), xa_s, upd_n (by omega), xa_n (by decide), xa_n (by decide)]
          · rw [xa_n (by decide), xa_n (by decide), xa_n (by decide), xa_n (by decide), xa_n (by decide), xa_s, upd_s, rc.2]
          · rw [xa_n (by decide), xa_n (by decide), xa_n (by decide), xa_n (by decide), xa_s, upd_s, rc.1]
          · rcases (show d = 0 ∨ d = 1 ∨ d = 2 ∨ d = 3 by omega) with rfl | rfl | rfl | rfl
            · rw [xa_s, upd_n (by omega), xa_s, upd_n (by omega), xa_s, upd_n (by omega), xa_s, upd_s]; show _ = xo (if c / a = 0 then none else some (c - a)); rw [rc.1]; first | (rw [if_pos h33]; rfl) | (rw [if_neg (by omega)]; rfl)
            · rw [xa_s, upd_n (by omega), xa_s, upd_n (by omega), xa_s, upd_s]; show _ = xo (if c % a + 1 < a then some (c + 1) else none); rw [rc.2]; first | (rw [if_pos (by omega)]; rfl) | (rw [if_neg (by omega)]; rfl)
            · rw [xa_s, upd_n (by omega), xa_s, upd_s]; show _ = xo (if c / a + 1 < b then some (c + a) else none); rw [rc.1]; first | (rw [if_pos (by omega)]; rfl) | (rw [if_neg (by omega)]; rfl)
            · rw [xa_s, upd_s]; show _ = xo (if c % a = 0 then none else some (c - 1)); rw [rc.2]; first | (rw [if_pos h114]; rfl) | (rw [if_neg (by omega)]; rfl)
        · skip
          refine xi_iload_n dX1_layCell_117 rfl ?_
          refine xi_iconst (v := 1) dX1_layCell_118 rfl ?_
          refine xe_isub dX1_layCell_119 (v := nI (c - 1)) (pk_sub (b := 1) (by omega)) ?_
          refine xi_goto 124 dX1_layCell_120 (by decide) ?_
          refine xe_iast (c * 4 + 3) dX1_layCell_124 cc6 (by decide) rfl (by omega) ?_
          refine xi_vret dX1_layCell_125 rfl ?_
          refine h _ ⟨rfl, rfl, fun a a4 a5 a6 => ?_, fun k hk => ⟨?_, ?_⟩, fun k hk => ?_⟩ ?_ ?_ (fun d hd => ?_)
          · rw [xa_n a6, xa_n a6, xa_n a6, xa_n a6, xa_n a5, xa_n a4]
          · rw [xa_n (by decide), xa_n (by decide), xa_n (by decide), xa_n (by decide), xa_n (by decide), xa_s, upd_n hk]
          · rw [xa_n (by decide), xa_n (by decide), xa_n (by decide), xa_n (by decide), xa_s, upd_n hk, xa_n (by decide)]
          · rw [xa_s, upd_n (by omega), xa_s, upd_n (by omega), xa_s, upd_n (by omega), xa_s, upd_n (by omega), xa_n (by decide), xa_n (by decide)]
          · rw [xa_n (by decide), xa_n (by decide), xa_n (by decide), xa_n (by decide), xa_n (by decide), xa_s, upd_s, rc.2]
          · rw [xa_n (by decide), xa_n (by decide), xa_n (by decide), xa_n (by decide), xa_s, upd_s, rc.1]
          · rcases (show d = 0 ∨ d = 1 ∨ d = 2 ∨ d = 3 by omega) with rfl | rfl | rfl | rfl
            · rw [xa_s, upd_n (by omega), xa_s, upd_n (by omega), xa_s, upd_n (by omega), xa_s, upd_s]; show _ = xo (if c / a = 0 then none else some (c - a)); rw [rc.1]; first | (rw [if_pos h33]; rfl) | (rw [if_neg (by omega)]; rfl)
            · rw [xa_s, upd_n (by omega), xa_s, upd_n (by omega), xa_s, upd_s]; show _ = xo (if c % a + 1 < a then some (c + 1) else none); rw [rc.2]; first | (rw [if_pos (by omega)]; rfl) | (rw [if_neg (by omega)]; rfl)
            · rw [xa_s, upd_n (by omega), xa_s, upd_s]; show _ = xo (if c / a + 1 < b then some (c + a) else none); rw [rc.1]; first | (rw [if_pos (by omega)]; rfl) | (rw [if_neg (by omega)]; rfl)
            · rw [xa_s, upd_s]; show _ = xo (if c % a = 0 then none else some (c - 1)); rw [rc.2]; first | (rw [if_pos h114]; rfl) | (rw [if_neg (by omega)]; rfl)

set_option maxHeartbeats 4000000 in
set_option maxRecDepth 100000 in
theorem gi_lay {Q : Option Value → xM → Prop} {a b P : Nat} (ha : 3 ≤ a) (ha2 : a ≤ 10) (hb : 3 ≤ b) (hb2 : b ≤ 10) {y : Nat} (hy : y < b) : ∀ (f x : Nat) (M : xM), x + f = a → M.1 1 0 = nI a → M.1 1 1 = nI b → LC a b P (y * a + x) M → (∀ M2, (M2.1 = M.1 ∧ M2.2.2 = M.2.2 ∧ ∀ a, ¬ a = 4 → ¬ a = 5 → ¬ a = 6 → M2.2.1 a = M.2.1 a) → LC a b P (y * a + a) M2 → WP shC mX1_lay 88 [some (.ref 1), some (.int (nI a)), some (.int (nI b)), some (.int (nI P)), some (.int (nI y)), some (.int (nI a))] [] M2 Q) → WP shC mX1_lay 68 [some (.ref 1), some (.int (nI a)), some (.int (nI b)), some (.int (nI P)), some (.int (nI y)), some (.int (nI x))] [] M Q := by
  have hab : a * b ≤ 10 * 10 := Nat.mul_le_mul ha2 hb2
  have hyb : (y + 1) * a ≤ b * a := Nat.mul_le_mul_right a (by omega)
  rw [Nat.succ_mul, Nat.mul_comm b a] at hyb
  intro f
  induction f with
  | zero =>
    intro x M hf hwa hhb hI h
    refine xi_iload dX1_lay_68 rfl ?_
    refine xi_iload_n dX1_lay_70 rfl ?_
    refine xn_icmp_ge x a 88 dX1_lay_71 (by decide) rfl rfl (by omega) (by omega) (fun h71 => ?_) (fun z => absurd z (by omega))
    obtain rfl : x = a := by omega
    exact h M ⟨rfl, rfl, fun _ _ _ _ => rfl⟩ hI
  | succ f ih =>
    intro x M hf hwa hhb hI h
    refine xi_iload dX1_lay_68 rfl ?_
    refine xi_iload_n dX1_lay_70 rfl ?_
    refine xn_icmp_ge x a 88 dX1_lay_71 (by decide) rfl rfl (by omega) (by omega) (fun z => absurd z (by omega)) (fun h71 => ?_)
    refine xi_aload_n dX1_lay_74 rfl ?_
    refine xi_iload dX1_lay_75 rfl ?_
    refine xi_iload dX1_lay_77 rfl ?_
    refine xi_callV [.int (nI x), .int (nI y)] [] dX1_lay_79 zX1_layCell mlX1_58 cc1 rfl rfl rfl rfl rfl (Nat.le_of_ble_eq_true rfl) (Nat.le_of_ble_eq_true rfl) ⟨by decide, by decide⟩ ?_
    refine g_layCell (P := P) (c := y * a + x) ha ha2 hb hb2 (by omega) hy rfl (by omega) hwa hhb (fun M1 F1 q1 q2 q3 => ?_)
    show WP _ _ 82 _ [] _ _
    refine xi_iinc (v := nI (x + 1)) (lv' := [some (.ref 1), some (.int (nI a)), some (.int (nI b)), some (.int (nI P)), some (.int (nI y)), some (.int (nI (x + 1)))]) dX1_lay_82 rfl (xinc x) (by decide) rfl ?_
    refine xi_goto 68 dX1_lay_85 (by decide) ?_
    refine ih (x + 1) M1 (by omega) (by rw [F1.1]; exact hwa) (by rw [F1.1]; exact hhb) (hI.step F1 q1 q2 q3) (fun M2 F2 z => h M2 ⟨F2.1.trans F1.1, F2.2.1.trans F1.2.1, fun a a4 a5 a6 => (F2.2.2 a a4 a5 a6).trans (F1.2.2.1 a a4 a5 a6)⟩ z)

set_option maxHeartbeats 4000000 in
set_option maxRecDepth 100000 in
theorem go_lay {Q : Option Value → xM → Prop} {a b P : Nat} (ha : 3 ≤ a) (ha2 : a ≤ 10) (hb : 3 ≤ b) (hb2 : b ≤ 10) : ∀ (f y : Nat) (M : xM), y + f = b → M.1 1 0 = nI a → M.1 1 1 = nI b → LC a b P (y * a) M → (∀ M2, (M2.1 = M.1 ∧ M2.2.2 = M.2.2 ∧ ∀ a, ¬ a = 4 → ¬ a = 5 → ¬ a = 6 → M2.2.1 a = M.2.1 a) → LC a b P (b * a) M2 → Q none M2) → WP shC mX1_lay 59 [some (.ref 1), some (.int (nI a)), some (.int (nI b)), some (.int (nI P)), some (.int (nI y)), none] [] M Q := by
  have hab : a * b ≤ 10 * 10 := Nat.mul_le_mul ha2 hb2
  intro f
  induction f with
  | zero =>
    intro y M hf hwa hhb hI h
    obtain rfl : b = y := by omega
    refine xi_iload dX1_lay_59 rfl ?_
    refine xi_iload_n dX1_lay_61 rfl ?_
    refine xn_icmp_ge b b 94 dX1_lay_62 (by decide) rfl rfl (by omega) (by omega) (fun h62 => ?_) (fun z => absurd z (by omega))
    refine xi_vret dX1_lay_94 rfl ?_
    exact h M ⟨rfl, rfl, fun _ _ _ _ => rfl⟩ hI
  | succ f ih =>
    intro y M hf hwa hhb hI h
    refine xi_iload dX1_lay_59 rfl ?_
    refine xi_iload_n dX1_lay_61 rfl ?_
    refine xn_icmp_ge y b 94 dX1_lay_62 (by decide) rfl rfl (by omega) (by omega) (fun z => absurd z (by omega)) (fun h62 => ?_)
    refine xi_iconst (v := 0) dX1_lay_65 rfl ?_
    refine xi_istore (lv' := [some (.ref 1), some (.int (nI a)), some (.int (nI b)), some (.int (nI P)), some (.int (nI y)), some (.int 0)]) dX1_lay_66 (by decide) rfl ?_
    refine gi_lay ha ha2 hb hb2 (y := y) (by omega) a 0 M (by omega) hwa hhb hI (fun M1 F1 z1 => ?_)
    refine xi_iinc (v := nI (y + 1)) (lv' := [some (.ref 1), some (.int (nI a)), some (.int (nI b)), some (.int (nI P)), some (.int (nI (y + 1))), some (.int (nI a))]) dX1_lay_88 rfl (xinc y) (by decide) rfl ?_
    refine xi_goto 59 dX1_lay_91 (by decide) ?_
    refine xi_drop [true, true, true, true, true, false] rfl ?_
    refine ih (y + 1) M1 (by omega) (by rw [F1.1]; exact hwa) (by rw [F1.1]; exact hhb) (by rw [Nat.succ_mul]; exact z1) (fun M2 F2 z => h M2 ⟨F2.1.trans F1.1, F2.2.1.trans F1.2.1, fun a a4 a5 a6 => (F2.2.2 a a4 a5 a6).trans (F1.2.2 a a4 a5 a6)⟩ z)

set_option maxHeartbeats 4000000 in
set_option maxRecDepth 100000 in
theorem g_lay {M : xM} {Q : Option Value → xM → Prop} {a b P : Nat} (ha : 3 ≤ a) (ha2 : a ≤ 10) (hb : 3 ≤ b) (hb2 : b ≤ 10) (hP : 1 ≤ P) (hP2 : P ≤ 4) (h : ∀ M2, (∀ x, (x < 1 ∨ 8 < x) → M2.1 x = M.1 x ∧ M2.2.1 x = M.2.1 x ∧ M2.2.2 x = M.2.2 x) → CG (g0 a b P) M2 → Q none M2) : WP shC mX1_lay 0 [some (.ref 1), some (.int (nI a)), some (.int (nI b)), some (.int (nI P)), none, none] [] M Q := by
  have hab : a * b ≤ 10 * 10 := Nat.mul_le_mul ha2 hb2
  refine xi_aload_n dX1_lay_0 rfl ?_
  refine xi_iload_n dX1_lay_1 rfl ?_
  refine xi_put dX1_lay_2 fpX1_33 cc1 rfl ?_
  refine xi_aload_n dX1_lay_5 rfl ?_
  refine xi_iload_n dX1_lay_6 rfl ?_
  refine xi_put dX1_lay_7 fpX1_37 cc1 rfl ?_
  refine xi_aload_n dX1_lay_10 rfl ?_
  refine xi_iload_n dX1_lay_11 rfl ?_
  refine xi_put dX1_lay_12 fpX1_40 cc1 rfl ?_
  refine xi_aload_n dX1_lay_15 rfl ?_
  refine xi_iload_n dX1_lay_16 rfl ?_
  refine xat 17 rfl ?_
  refine xi_iload_n dX1_lay_17 rfl ?_
  refine xe_imul dX1_lay_18 (v := nI (a * b)) (pk_mul _ _) ?_
  refine xi_put dX1_lay_19 fpX1_43 cc1 rfl ?_
  refine xi_aload_n dX1_lay_22 rfl ?_
  refine xi_iconst (v := 0) dX1_lay_23 rfl ?_
  refine xi_put dX1_lay_24 fpX1_46 cc1 rfl ?_
  refine xi_aload_n dX1_lay_27 rfl ?_
  refine xi_iload_n dX1_lay_28 rfl ?_
  refine xi_put dX1_lay_29 fpX1_49 cc1 rfl ?_
  generalize eM9 : (xf (xf (xf (xf (xf (xf M 1 0 (nI a)) 1 1 (nI b)) 1 2 (nI P)) 1 3 (nI (a * b))) 1 4 0) 1 5 (nI P)) = M9
  have F9 : ∀ a, ¬ a = 1 → M9.1 a = M.1 a := fun a ha => by rw [← eM9, xf_o ha, xf_o ha, xf_o ha, xf_o ha, xf_o ha, xf_o ha]
  have T9 : M9.2 = M.2 := by rw [← eM9]; rfl
  have q0 : M9.1 1 0 = nI (a) := by rw [← eM9]; rfl
  have q1 : M9.1 1 1 = nI (b) := by rw [← eM9]; rfl
  have q2 : M9.1 1 2 = nI (P) := by rw [← eM9]; rfl
  have q3 : M9.1 1 3 = nI (a * b) := by rw [← eM9]; rfl
  have q4 : M9.1 1 4 = nI (0) := by rw [← eM9]; rfl
  have q5 : M9.1 1 5 = nI (P) := by rw [← eM9]; rfl
  refine xi_aload_n dX1_lay_32 rfl ?_
  refine xi_getR dX1_lay_33 fgX1_9 cc1 rfl ?_
  refine xi_iconst (v := 0) dX1_lay_36 rfl ?_
  refine xat 37 rfl ?_
  refine xi_callS [.ref 2, .int 0] [] dX1_lay_37 zJ7_fill_53178 mlX1_52 rfl rfl rfl (Nat.le_of_ble_eq_true rfl) (Nat.le_of_ble_eq_true rfl) ⟨by decide, by decide⟩ ?_
  refine j_fillI (v := 0) cc2 (by decide) (fun M1 F1 z1 => ?_)
  show WP _ _ 40 _ [] _ _
  refine xi_aload_n dX1_lay_40 rfl ?_
  refine xi_getR dX1_lay_41 fgX1_15 cc1 rfl ?_
  refine xi_iconst (v := 0) dX1_lay_44 rfl ?_
  refine xi_callS [.ref 3, .int 0] [] dX1_lay_45 zJ7_fill_53178 mlX1_52 rfl rfl rfl (Nat.le_of_ble_eq_true rfl) (Nat.le_of_ble_eq_true rfl) ⟨by decide, by decide⟩ ?_
  refine j_fillI (v := 0) cc3 (by decide) (fun M2 F2 z2 => ?_)
  show WP _ _ 48 _ [] _ _
  refine xi_aload_n dX1_lay_48 rfl ?_
  refine xi_getR dX1_lay_49 fgX1_30 cc1 rfl ?_
  refine xi_iconst (v := 0) dX1_lay_52 rfl ?_
  refine xi_callS [.ref 8, .int 0] [] dX1_lay_53 zJ7_fill_53178 mlX1_52 rfl rfl rfl (Nat.le_of_ble_eq_true rfl) (Nat.le_of_ble_eq_true rfl) ⟨by decide, by decide⟩ ?_
  refine j_fillI (v := 0) cc8 (by decide) (fun M3 F3 z3 => ?_)
  show WP _ _ 56 _ [] _ _
  refine xi_iconst (v := 0) dX1_lay_56 rfl ?_
  refine xi_istore (lv' := [some (.ref 1), some (.int (nI a)), some (.int (nI b)), some (.int (nI P)), some (.int 0), none]) dX1_lay_57 (by decide) rfl ?_
  refine go_lay (P := P) ha ha2 hb hb2 b 0 M3 (by omega) (by rw [F3.1, F2.1, F1.1]; exact q0) (by rw [F3.1, F2.1, F1.1]; exact q1) (fun k hk => by omega) (fun M4 F4 z4 => ?_)
  rw [Nat.mul_comm] at z4
  have e1 : M4.1 = M9.1 := by rw [F4.1, F3.1, F2.1, F1.1]
  refine h M4 (fun x hx => ⟨by rw [e1, F9 x (by omega)], ?_, ?_⟩) ⟨by rw [e1]; exact q0, by rw [e1]; exact q1, by rw [e1]; exact q2, by rw [e1]; exact q3, by rw [e1]; exact q4, by rw [e1]; exact q5, fun k hk => ?_, fun k hk hd => ?_, fun k hk => (z4 k hk).1, fun k hk => (z4 k hk).2.1, fun k hk d hd => (z4 k hk).2.2 d hd, fun d hd => absurd hd (Nat.not_lt_zero _), fun n hn => ?_⟩
  · rw [F4.2.2 x (by omega) (by omega) (by omega), F3.2.2 x (by omega), F2.2.2 x (by omega), F1.2.2 x (by omega), T9]
  · rw [F4.2.1, F3.2.1, F2.2.1, F1.2.1, T9]
  · change k < a * b at hk
    rw [F4.2.2 2 (by decide) (by decide) (by decide), F3.2.2 2 (by decide), F2.2.2 2 (by decide)]; exact z1 k (by omega)
  · exact absurd hd (by rintro (z | z) <;> exact absurd (show 0 = _ from z) (by decide))
  · change n < P at hn
    rw [F4.2.2 8 (by decide) (by decide) (by decide)]; exact z3 n (by omega)

