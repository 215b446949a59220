/-! digest, letters, chances -/
def mdS (G : xG) (S : xS) (n : Nat) (d : Int32) : Int32 :=
  if n < gP G then 31 * (31 * (31 * (31 * (31 * (31 * d + sC S n) + nI (sL S n)) + sF S n) + nI (sR S n)) + (xo (sH S n) + 1)) + xo (sB S n) + 1
  else 31 * (31 * (31 * (31 * (31 * (31 * d + sC S n) + nI (sL S n)) + 0) + 0) + 0) + xo (sB S n) + 1
def mdT (G : xG) (S : xS) : Nat → Nat → Int32 → Int32
  | _, 0, d => d
  | n, f + 1, d => mdT G S (n + 1) f (mdS G S n d)
def mdD (S : xS) : Nat → Nat → Int32 → Int32
  | _, 0, d => d
  | i, f + 1, d => mdD S (i + 1) f (31 * d + sO S i)
def mdP (S : xS) : Nat → Nat → Int32 → Int32
  | _, 0, d => d
  | p, f + 1, d => mdP S (p + 1) f (31 * (31 * d + sP S p) + sK S p)
def mdig (G : xG) (S : xS) : Int32 := mdP S 0 (gP G) (mdD S 0 (gD G) (mdT G S 0 (gT G) 7))
def maddL (G : xG) (S : xS) (k : Nat) : Nat → Nat → Int32 → Int32
  | _, 0, s => s
  | n, f + 1, s => maddL G S k (n + 1) f (if ¬ gkind G n = 4 ∧ mat G S n k = true then 31 * s + nI n + nI (32 * gkind G n) + nI (512 * sL S n) else s)
def mletL (G : xG) (S : xS) (p : Nat) : Nat → Nat → Int32 → Int32
  | _, 0, s => s
  | c, f + 1, s => mletL G S p (c + 1) f (if mspot G S p c = true then maddL G S c 0 (gT G) (31 * s + nI c + nI (128 * mlook G S c)) else s)
def mletter (G : xG) (S : xS) (p : Nat) : Int32 := if 0 < sL S p then 31 * (31 * mletL G S p 0 (gN G) 1 + nI (sL S p) + nI (8 * sR S p) + 64 * (xo (sH S p) + 1)) + sK S p else 0
def mforb (G : xG) (S : xS) (p c : Nat) : Bool := match c % 16 with
  | 2 => decide (0 < sR S p)
  | 3 => !mdoorO G (mnext G (mpos S p) (c / 16 % 4))
  | 4 => (sH S p).isSome
  | 5 => (sH S p).isNone
  | 6 => !mcar G S p 5
  | _ => false
def munL (G : xG) (S : xS) (p d : Nat) : Nat → Option Nat → Nat → Nat
  | 0, _, a => a
  | _ + 1, none, a => a
  | f + 1, some k, a => if mbars G S k = true then a else if mspot G S p k = true then (match mstand G S k with
      | some _ => 0
      | none => munL G S p d f (mnext G k d) a) else munL G S p d f (mnext G k d) (a + 1)
def munseen (G : xG) (S : xS) (p d : Nat) : Nat := munL G S p d 7 (mnext G (mpos S p) d) 0
def mhidL (G : xG) (S : xS) (p : Nat) : Nat → Nat → Nat → Nat
  | _, 0, a => a
  | n, f + 1, a => mhidL G S p (n + 1) f (if 0 < sL S n ∧ mspot G S p (mpos S n) = false then a + 1 else a)
def mhid (G : xG) (S : xS) (p : Nat) : Nat := mhidL G S p 0 (gT G) 0
def mdarkL (G : xG) (S : xS) (p : Nat) : Nat → Nat → Nat → Nat
  | _, 0, a => a
  | c, f + 1, a => mdarkL G S p (c + 1) f (if ¬ gmap G c = 1 ∧ mspot G S p c = false then a + 1 else a)
def mdark (G : xG) (S : xS) (p : Nat) : Nat := mdarkL G S p 0 (gN G) 0
def mshotC (G : xG) (S : xS) (p d : Nat) : Option Nat := if sR S p = 0 ∧ 0 < munseen G S p d ∧ 0 < mdark G S p then some (1048576 * min (mhid G S p * munseen G S p d) (mdark G S p) / mdark G S p) else none
def mwordC (G : xG) (S : xS) (p d : Nat) : Option Nat := match mnext G (mpos S p) d with
  | none => none
  | some k => if mshut G S k = true ∧ (sK S p >>> (nI (glink G k) &&& 31)) &&& 1 = 0 then some 65536 else none
theorem munL_le {G : xG} {S : xS} {p d : Nat} : ∀ (f : Nat) (o : Option Nat) (a : Nat), munL G S p d f o a ≤ a + f
  | 0, o, a => Nat.le_refl _
  | f + 1, none, a => by rw [munL]; omega
  | f + 1, some k, a => by
    rw [munL]
    split
    · omega
    · split
      · cases mstand G S k with
        | some _ => exact Nat.zero_le _
        | none => have := munL_le (G := G) (S := S) (p := p) (d := d) f (mnext G k d) a; dsimp only; omega
      · have := munL_le (G := G) (S := S) (p := p) (d := d) f (mnext G k d) (a + 1); omega
theorem mhidL_le {G : xG} {S : xS} {p : Nat} : ∀ (f n a : Nat), mhidL G S p n f a ≤ a + f
  | 0, n, a => Nat.le_refl _
  | f + 1, n, a => by
    rw [mhidL]
    have := mhidL_le (G := G) (S := S) (p := p) f (n + 1)
    split
    · have := this (a + 1); omega
    · have := this a; omega
theorem mdarkL_le {G : xG} {S : xS} {p : Nat} : ∀ (f n a : Nat), mdarkL G S p n f a ≤ a + f
  | 0, n, a => Nat.le_refl _
  | f + 1, n, a => by
    rw [mdarkL]
    have := mdarkL_le (G := G) (S := S) (p := p) f (n + 1)
    split
    · have := this (a + 1); omega
    · have := this a; omega
set_option maxHeartbeats 4000000 in
set_option maxRecDepth 100000 in
theorem l_digP {G : xG} {S : xS} {M : xM} {r : Nat} {Q : Option Value → xM → Prop} (hW : wG G) (hG : CG G M) (hr : isSt r) (hS : CS G S M r) (hw : wS G S)  : ∀ (f n : Nat) (d : Int32), n + f = gP G → Q (some (.int (mdP S n f d))) M → WP shC mX6_sumUp 172 [some (.ref r), some (.int d), some (.int (nI n)), none] [] M Q := by
  obtain ⟨b1, b2, b3, b4, b5, b6, b7, b8, b9, wmap, wlink, wk0, wk1, b10, b11, wword⟩ := id hW
  intro f
  induction f with
  | zero =>
    intro n d hf h
    refine xi_iload_n dX6_sumUp_172 rfl ?_
    refine xi_aload_n dX6_sumUp_173 rfl ?_
    refine xi_getR dX6_sumUp_174 fgX6_39 (so hr) rfl ?_
    refine xe_getI (v := nI (gP G)) dX6_sumUp_177 fgX6_49 cc1 rfl (cg_P hG) ?_
    refine xn_icmp_ge n (gP G) 213 dX6_sumUp_180 (by decide) rfl rfl (by omega) (by omega) (fun h180 => ?_) (fun h180 => ?_)
    · skip
      refine xi_iload_n dX6_sumUp_213 rfl ?_
      refine xi_iret (v := d) dX6_sumUp_214 rfl ?_
      exact h
    · omega
  | succ f ih =>
    intro n d hf h
    refine xi_iload_n dX6_sumUp_172 rfl ?_
    refine xi_aload_n dX6_sumUp_173 rfl ?_
    refine xi_getR dX6_sumUp_174 fgX6_39 (so hr) rfl ?_
    refine xe_getI (v := nI (gP G)) dX6_sumUp_177 fgX6_49 cc1 rfl (cg_P hG) ?_
    refine xn_icmp_ge n (gP G) 213 dX6_sumUp_180 (by decide) rfl rfl (by omega) (by omega) (fun h180 => ?_) (fun h180 => ?_)
    · omega
    · skip
      refine xi_bipush (v := 31) dX6_sumUp_183 (by decide) ?_
      refine xi_iload_n dX6_sumUp_185 rfl ?_
      refine xi_imul dX6_sumUp_186 ?_
      refine xi_aload_n dX6_sumUp_187 rfl ?_
      refine xi_getR dX6_sumUp_188 fgX6_30 (so hr) rfl ?_
      refine xi_iload_n dX6_sumUp_191 rfl ?_
      refine xe_iald (v := sP S n) n dX6_sumUp_192 (sa7 hr) (by decide) rfl (by omega) (csP hS (by omega)) ?_
      refine xi_iadd dX6_sumUp_193 ?_
      refine xi_istore_n (lv' := [some (.ref r), some (.int ((31 * d) + sP S n)), some (.int (nI n)), none]) dX6_sumUp_194 (by decide) rfl ?_
      refine xi_bipush (v := 31) dX6_sumUp_195 (by decide) ?_
      refine xi_iload_n dX6_sumUp_197 rfl ?_
      refine xat 198 rfl ?_
      refine xi_imul dX6_sumUp_198 ?_
      refine xi_aload_n dX6_sumUp_199 rfl ?_
      refine xi_getR dX6_sumUp_200 fgX6_33 (so hr) rfl ?_
      refine xi_iload_n dX6_sumUp_203 rfl ?_
      refine xe_iald (v := sK S n) n dX6_sumUp_204 (sa8 hr) (by decide) rfl (by omega) (csK hS (by omega)) ?_
      refine xi_iadd dX6_sumUp_205 ?_
      refine xi_istore_n (lv' := [some (.ref r), some (.int ((31 * ((31 * d) + sP S n)) + sK S n)), some (.int (nI n)), none]) dX6_sumUp_206 (by decide) rfl ?_
      refine xi_iinc (v := nI (n + 1)) (lv' := [some (.ref r), some (.int ((31 * ((31 * d) + sP S n)) + sK S n)), some (.int (nI (n + 1))), none]) dX6_sumUp_207 rfl (xinc n) (by decide) rfl ?_
      refine xi_goto 172 dX6_sumUp_210 (by decide) ?_
      exact ih (n + 1) _ (by omega) h

set_option maxHeartbeats 4000000 in
set_option maxRecDepth 100000 in
theorem l_digD {G : xG} {S : xS} {M : xM} {r : Nat} {Q : Option Value → xM → Prop} (hW : wG G) (hG : CG G M) (hr : isSt r) (hS : CS G S M r) (hw : wS G S)  : ∀ (f n : Nat) (d : Int32), n + f = gD G → Q (some (.int (mdP S 0 (gP G) (mdD S n f d)))) M → WP shC mX6_sumUp 141 [some (.ref r), some (.int d), some (.int (nI n)), none] [] M Q := by
  obtain ⟨b1, b2, b3, b4, b5, b6, b7, b8, b9, wmap, wlink, wk0, wk1, b10, b11, wword⟩ := id hW
  intro f
  induction f with
  | zero =>
    intro n d hf h
    refine xi_iload_n dX6_sumUp_141 rfl ?_
    refine xi_aload_n dX6_sumUp_142 rfl ?_
    refine xi_getR dX6_sumUp_143 fgX6_39 (so hr) rfl ?_
    refine xe_getI (v := nI (gD G)) dX6_sumUp_146 fgX6_135 cc1 rfl (cg_D hG) ?_
    refine xn_icmp_ge n (gD G) 170 dX6_sumUp_149 (by decide) rfl rfl (by omega) (by omega) (fun h149 => ?_) (fun h149 => ?_)
    · skip
      refine xi_iconst (v := 0) dX6_sumUp_170 rfl ?_
      refine xi_istore_n (lv' := [some (.ref r), some (.int d), some (.int 0), none]) dX6_sumUp_171 (by decide) rfl ?_
      exact l_digP hW hG hr hS hw (gP G) 0 d (by omega) h
    · omega
  | succ f ih =>
    intro n d hf h
    refine xi_iload_n dX6_sumUp_141 rfl ?_
    refine xi_aload_n dX6_sumUp_142 rfl ?_
    refine xi_getR dX6_sumUp_143 fgX6_39 (so hr) rfl ?_
    refine xe_getI (v := nI (gD G)) dX6_sumUp_146 fgX6_135 cc1 rfl (cg_D hG) ?_
    refine xn_icmp_ge n (gD G) 170 dX6_sumUp_149 (by decide) rfl rfl (by omega) (by omega) (fun h149 => ?_) (fun h149 => ?_)
    · omega
    · skip
      refine xi_bipush (v := 31) dX6_sumUp_152 (by decide) ?_
      refine xi_iload_n dX6_sumUp_154 rfl ?_
      refine xi_imul dX6_sumUp_155 ?_
      refine xi_aload_n dX6_sumUp_156 rfl ?_
      refine xi_getR dX6_sumUp_157 fgX6_36 (so hr) rfl ?_
      refine xi_iload_n dX6_sumUp_160 rfl ?_
      refine xe_iald (v := sO S n) n dX6_sumUp_161 (sa9 hr) (by decide) rfl (by omega) (csO hS (by omega)) ?_
      refine xi_iadd dX6_sumUp_162 ?_
      refine xi_istore_n (lv' := [some (.ref r), some (.int ((31 * d) + sO S n)), some (.int (nI n)), none]) dX6_sumUp_163 (by decide) rfl ?_
      refine xi_iinc (v := nI (n + 1)) (lv' := [some (.ref r), some (.int ((31 * d) + sO S n)), some (.int (nI (n + 1))), none]) dX6_sumUp_164 rfl (xinc n) (by decide) rfl ?_
      refine xi_goto 141 dX6_sumUp_167 (by decide) ?_
      exact ih (n + 1) _ (by omega) h

set_option maxHeartbeats 4000000 in
set_option maxRecDepth 100000 in
theorem l_digT {G : xG} {S : xS} {M : xM} {r : Nat} {Q : Option Value → xM → Prop} (hW : wG G) (hG : CG G M) (hr : isSt r) (hS : CS G S M r) (hw : wS G S) : ∀ (f n : Nat) (d : Int32), n + f = gT G → Q (some (.int (mdP S 0 (gP G) (mdD S 0 (gD G) (mdT G S n f d))))) M → WP shC mX6_sumUp 5 [some (.ref r), some (.int d), some (.int (nI n)), none] [] M Q := by
  obtain ⟨b1, b2, b3, b4, b5, b6, b7, b8, b9, wmap, wlink, wk0, wk1, b10, b11, wword⟩ := id hW
  intro f
  induction f with
  | zero =>
    intro n d hf h
    refine xi_iload_n dX6_sumUp_5 rfl ?_
    refine xi_aload_n dX6_sumUp_6 rfl ?_
    refine xi_getR dX6_sumUp_7 fgX6_39 (so hr) rfl ?_
    refine xe_getI (v := nI (gT G)) dX6_sumUp_10 fgX6_75 cc1 rfl (cg_T hG) ?_
    refine xn_icmp_ge n (gT G) 139 dX6_sumUp_13 (by decide) rfl rfl (by omega) (by omega) (fun h13 => ?_) (fun h13 => ?_)
    · skip
      refine xi_iconst (v := 0) dX6_sumUp_139 rfl ?_
      refine xi_istore_n (lv' := [some (.ref r), some (.int d), some (.int 0), none]) dX6_sumUp_140 (by decide) rfl ?_
      refine xi_drop [true, true, true, false] rfl ?_
      exact l_digD hW hG hr hS hw (gD G) 0 d (by omega) h
    · omega
  | succ f ih =>
    intro n d hf h
    refine xi_iload_n dX6_sumUp_5 rfl ?_
    refine xi_aload_n dX6_sumUp_6 rfl ?_
    refine xi_getR dX6_sumUp_7 fgX6_39 (so hr) rfl ?_
    refine xe_getI (v := nI (gT G)) dX6_sumUp_10 fgX6_75 cc1 rfl (cg_T hG) ?_
    refine xn_icmp_ge n (gT G) 139 dX6_sumUp_13 (by decide) rfl rfl (by omega) (by omega) (fun h13 => ?_) (fun h13 => ?_)
    · omega
    · skip
      refine xi_iload_n dX6_sumUp_16 rfl ?_
      refine xi_aload_n dX6_sumUp_17 rfl ?_
      refine xi_getR dX6_sumUp_18 fgX6_39 (so hr) rfl ?_
      refine xe_getI (v := nI (gP G)) dX6_sumUp_21 fgX6_49 cc1 rfl (cg_P hG) ?_
      refine xn_icmp_ge n (gP G) 31 dX6_sumUp_24 (by decide) rfl rfl (by omega) (by omega) (fun h24 => ?_) (fun h24 => ?_)
      · skip
        refine xi_iconst (v := 0) dX6_sumUp_31 rfl ?_
        refine xi_istore_n (lv' := [some (.ref r), some (.int d), some (.int (nI n)), some (.int 0)]) dX6_sumUp_32 (by decide) rfl ?_
        refine xi_bipush (v := 31) dX6_sumUp_33 (by decide) ?_
        refine xi_iload_n dX6_sumUp_35 rfl ?_
        refine xi_imul dX6_sumUp_36 ?_
        refine xi_aload_n dX6_sumUp_37 rfl ?_
        refine xi_getR dX6_sumUp_38 fgX6_9 (so hr) rfl ?_
        refine xi_iload_n dX6_sumUp_41 rfl ?_
        refine xe_iald (v := sC S n) n dX6_sumUp_42 (sa1 hr) (by decide) rfl (by omega) (csC hS (by omega)) ?_
        refine xi_iadd dX6_sumUp_43 ?_
        refine xi_istore_n (lv' := [some (.ref r), some (.int ((31 * d) + sC S n)), some (.int (nI n)), some (.int 0)]) dX6_sumUp_44 (by decide) rfl ?_
        refine xat 45 rfl ?_
        refine xi_bipush (v := 31) dX6_sumUp_45 (by decide) ?_
        refine xi_iload_n dX6_sumUp_47 rfl ?_
        refine xi_imul dX6_sumUp_48 ?_
        refine xi_aload_n dX6_sumUp_49 rfl ?_
        refine xi_getR dX6_sumUp_50 fgX6_15 (so hr) rfl ?_
        refine xi_iload_n dX6_sumUp_53 rfl ?_
        have q2 := (hw).2.1 n (by omega)
        refine xe_iald (v := nI (sL S n)) n dX6_sumUp_54 (sa2 hr) (by decide) rfl (by omega) (csL hS (by omega)) ?_
        refine xi_iadd dX6_sumUp_55 ?_
        refine xi_istore_n (lv' := [some (.ref r), some (.int ((31 * ((31 * d) + sC S n)) + nI (sL S n))), some (.int (nI n)), some (.int 0)]) dX6_sumUp_56 (by decide) rfl ?_
        refine xi_bipush (v := 31) dX6_sumUp_57 (by decide) ?_
        refine xi_iload_n dX6_sumUp_59 rfl ?_
        refine xi_imul dX6_sumUp_60 ?_
        refine xat 61 rfl ?_
        refine xi_iload_n dX6_sumUp_61 rfl ?_
        refine xn_if_eq 0 74 dX6_sumUp_62 (by decide) rfl (by omega) (fun h62 => ?_) (fun h62 => ?_)
        · skip
          refine xi_iconst (v := 0) dX6_sumUp_74 rfl ?_
          refine xi_iadd dX6_sumUp_75 ?_
          refine xi_istore_n (lv' := [some (.ref r), some (.int ((31 * ((31 * ((31 * d) + sC S n)) + nI (sL S n))) + 0)), some (.int (nI n)), some (.int 0)]) dX6_sumUp_76 (by decide) rfl ?_
          refine xi_bipush (v := 31) dX6_sumUp_77 (by decide) ?_
          refine xi_iload_n dX6_sumUp_79 rfl ?_
          refine xi_imul dX6_sumUp_80 ?_
          refine xi_iload_n dX6_sumUp_81 rfl ?_
          refine xn_if_eq 0 94 dX6_sumUp_82 (by decide) rfl (by omega) (fun h82 => ?_) (fun h82 => ?_)
          · skip
            refine xi_iconst (v := 0) dX6_sumUp_94 rfl ?_
            refine xi_iadd dX6_sumUp_95 ?_
            refine xi_istore_n (lv' := [some (.ref r), some (.int ((31 * ((31 * ((31 * ((31 * d) + sC S n)) + nI (sL S n))) + 0)) + 0)), some (.int (nI n)), some (.int 0)]) dX6_sumUp_96 (by decide) rfl ?_
            refine xi_bipush (v := 31) dX6_sumUp_97 (by decide) ?_
            refine xi_iload_n dX6_sumUp_99 rfl ?_
            refine xi_imul dX6_sumUp_100 ?_
            refine xi_iload_n dX6_sumUp_101 rfl ?_
            refine xn_if_eq 0 116 dX6_sumUp_102 (by decide) rfl (by omega) (fun h102 => ?_) (fun h102 => ?_)
            · skip
              refine xi_iconst (v := 0) dX6_sumUp_116 rfl ?_
              refine xi_iadd dX6_sumUp_117 ?_
              refine xi_istore_n (lv' := [some (.ref r), some (.int ((31 * ((31 * ((31 * ((31 * ((31 * d) + sC S n)) + nI (sL S n))) + 0)) + 0)) + 0)), some (.int (nI n)), some (.int 0)]) dX6_sumUp_118 (by decide) rfl ?_
              refine xi_bipush (v := 31) dX6_sumUp_119 (by decide) ?_
              refine xi_iload_n dX6_sumUp_121 rfl ?_
              refine xi_imul dX6_sumUp_122 ?_
              refine xi_aload_n dX6_sumUp_123 rfl ?_
              refine xi_getR dX6_sumUp_124 fgX6_18 (so hr) rfl ?_
              refine xi_iload_n dX6_sumUp_127 rfl ?_
              refine xe_iald (v := xo (sB S n)) n dX6_sumUp_128 (sa3 hr) (by decide) rfl (by omega) (csB hS (by omega)) ?_
              refine xi_iadd dX6_sumUp_129 ?_
              refine xat 130 rfl ?_
              refine xi_iconst (v := 1) dX6_sumUp_130 rfl ?_
              refine xi_iadd dX6_sumUp_131 ?_
              refine xi_istore_n (lv' := [some (.ref r), some (.int (((31 * ((31 * ((31 * ((31 * ((31 * ((31 * d) + sC S n)) + nI (sL S n))) + 0)) + 0)) + 0)) + xo (sB S n)) + 1)), some (.int (nI n)), some (.int 0)]) dX6_sumUp_132 (by decide) rfl ?_
              refine xi_iinc (v := nI (n + 1)) (lv' := [some (.ref r), some (.int (((31 * ((31 * ((31 * ((31 * ((31 * ((31 * d) + sC S n)) + nI (sL S n))) + 0)) + 0)) + 0)) + xo (sB S n)) + 1)), some (.int (nI (n + 1))), some (.int 0)]) dX6_sumUp_133 rfl (xinc n) (by decide) rfl ?_
              refine xi_goto 5 dX6_sumUp_136 (by decide) ?_
              refine xi_drop [true, true, true, false] rfl ?_
              have e : mdS G S n d = (((31 * ((31 * ((31 * ((31 * ((31 * ((31 * d) + sC S n)) + nI (sL S n))) + 0)) + 0)) + 0)) + xo (sB S n)) + 1) := by unfold mdS; rw [if_neg (by omega)]
              rw [mdT, e] at h
              exact ih (n + 1) _ (by omega) h
            · exact absurd rfl h102
          · exact absurd rfl h82
        · exact absurd rfl h62
      · skip
        refine xi_iconst (v := 1) dX6_sumUp_27 rfl ?_
        refine xi_goto 32 dX6_sumUp_28 (by decide) ?_
        refine xi_istore_n (lv' := [some (.ref r), some (.int d), some (.int (nI n)), some (.int 1)]) dX6_sumUp_32 (by decide) rfl ?_
        refine xi_bipush (v := 31) dX6_sumUp_33 (by decide) ?_
        refine xi_iload_n dX6_sumUp_35 rfl ?_
        refine xi_imul dX6_sumUp_36 ?_
        refine xi_aload_n dX6_sumUp_37 rfl ?_
        refine xi_getR dX6_sumUp_38 fgX6_9 (so hr) rfl ?_
        refine xi_iload_n dX6_sumUp_41 rfl ?_
        refine xe_iald (v := sC S n) n dX6_sumUp_42 (sa1 hr) (by decide) rfl (by omega) (csC hS (by omega)) ?_
        refine xi_iadd dX6_sumUp_43 ?_
        refine xi_istore_n (lv' := [some (.ref r), some (.int ((31 * d) + sC S n)), some (.int (nI n)), some (.int 1)]) dX6_sumUp_44 (by decide) rfl ?_
        refine xi_bipush (v := 31) dX6_sumUp_45 (by decide) ?_
        refine xat 47 rfl ?_
        refine xi_iload_n dX6_sumUp_47 rfl ?_
        refine xi_imul dX6_sumUp_48 ?_
        refine xi_aload_n dX6_sumUp_49 rfl ?_
        refine xi_getR dX6_sumUp_50 fgX6_15 (so hr) rfl ?_
        refine xi_iload_n dX6_sumUp_53 rfl ?_
        have q4 := (hw).2.1 n (by omega)
        refine xe_iald (v := nI (sL S n)) n dX6_sumUp_54 (sa2 hr) (by decide) rfl (by omega) (csL hS (by omega)) ?_
        refine xi_iadd dX6_sumUp_55 ?_
        refine xi_istore_n (lv' := [some (.ref r), some (.int ((31 * ((31 * d) + sC S n)) + nI (sL S n))), some (.int (nI n)), some (.int 1)]) dX6_sumUp_56 (by decide) rfl ?_
        refine xi_bipush (v := 31) dX6_sumUp_57 (by decide) ?_
        refine xi_iload_n dX6_sumUp_59 rfl ?_
        refine xi_imul dX6_sumUp_60 ?_
        refine xi_iload_n dX6_sumUp_61 rfl ?_
        refine xat 62 rfl ?_
        refine xn_if_eq 1 74 dX6_sumUp_62 (by decide) rfl (by omega) (fun h62 => ?_) (fun h62 => ?_)
        · exact absurd h62 (by decide)
        · skip
          refine xi_aload_n dX6_sumUp_65 rfl ?_
          refine xi_getR dX6_sumUp_66 fgX6_21 (so hr) rfl ?_
          refine xi_iload_n dX6_sumUp_69 rfl ?_
          refine xe_iald (v := sF S n) n dX6_sumUp_70 (sa4 hr) (by decide) rfl (by omega) (csF hS (by omega)) ?_
          refine xi_goto 75 dX6_sumUp_71 (by decide) ?_
          refine xi_iadd dX6_sumUp_75 ?_
          refine xi_istore_n (lv' := [some (.ref r), some (.int ((31 * ((31 * ((31 * d) + sC S n)) + nI (sL S n))) + sF S n)), some (.int (nI n)), some (.int 1)]) dX6_sumUp_76 (by decide) rfl ?_
          refine xi_bipush (v := 31) dX6_sumUp_77 (by decide) ?_
          refine xi_iload_n dX6_sumUp_79 rfl ?_
          refine xi_imul dX6_sumUp_80 ?_
          refine xi_iload_n dX6_sumUp_81 rfl ?_
          refine xn_if_eq 1 94 dX6_sumUp_82 (by decide) rfl (by omega) (fun h82 => ?_) (fun h82 => ?_)
          · exact absurd h82 (by decide)
          · skip
            refine xi_aload_n dX6_sumUp_85 rfl ?_
            refine xi_getR dX6_sumUp_86 fgX6_24 (so hr) rfl ?_
            refine xi_iload_n dX6_sumUp_89 rfl ?_
            have q6 := (hw).2.2.2.1 n (by omega)
            refine xe_iald (v := nI (sR S n)) n dX6_sumUp_90 (sa5 hr) (by decide) rfl (by omega) (csR hS (by omega)) ?_
            refine xi_goto 95 dX6_sumUp_91 (by decide) ?_
            refine xi_iadd dX6_sumUp_95 ?_
            refine xi_istore_n (lv' := [some (.ref r), some (.int ((31 * ((31 * ((31 * ((31 * d) + sC S n)) + nI (sL S n))) + sF S n)) + nI (sR S n))), some (.int (nI n)), some (.int 1)]) dX6_sumUp_96 (by decide) rfl ?_
            refine xi_bipush (v := 31) dX6_sumUp_97 (by decide) ?_
            refine xi_iload_n dX6_sumUp_99 rfl ?_
            refine xi_imul dX6_sumUp_100 ?_
            refine xi_iload_n dX6_sumUp_101 rfl ?_
            refine xn_if_eq 1 116 dX6_sumUp_102 (by decide) rfl (by omega) (fun h102 => ?_) (fun h102 => ?_)
            · exact absurd h102 (by decide)
            · skip
              refine xi_aload_n dX6_sumUp_105 rfl ?_
              refine xi_getR dX6_sumUp_106 fgX6_27 (so hr) rfl ?_
              refine xi_iload_n dX6_sumUp_109 rfl ?_
              refine xe_iald (v := xo (sH S n)) n dX6_sumUp_110 (sa6 hr) (by decide) rfl (by omega) (csH hS (by omega)) ?_
              refine xi_iconst (v := 1) dX6_sumUp_111 rfl ?_
              refine xi_iadd dX6_sumUp_112 ?_
              refine xi_goto 117 dX6_sumUp_113 (by decide) ?_
              refine xi_iadd dX6_sumUp_117 ?_
              refine xi_istore_n (lv' := [some (.ref r), some (.int ((31 * ((31 * ((31 * ((31 * ((31 * d) + sC S n)) + nI (sL S n))) + sF S n)) + nI (sR S n))) + (xo (sH S n) + 1))), some (.int (nI n)), some (.int 1)]) dX6_sumUp_118 (by decide) rfl ?_
              refine xi_bipush (v := 31) dX6_sumUp_119 (by decide) ?_
              refine xi_iload_n dX6_sumUp_121 rfl ?_
              refine xi_imul dX6_sumUp_122 ?_
              refine xi_aload_n dX6_sumUp_123 rfl ?_
              refine xi_getR dX6_sumUp_124 fgX6_18 (so hr) rfl ?_
              refine xi_iload_n dX6_sumUp_127 rfl ?_
              refine xe_iald (v := xo (sB S n)) n dX6_sumUp_128 (sa3 hr) (by decide) rfl (by omega) (csB hS (by omega)) ?_
              refine xi_iadd dX6_sumUp_129 ?_
              refine xi_iconst (v := 1) dX6_sumUp_130 rfl ?_
              refine xat 131 rfl ?_
              refine xi_iadd dX6_sumUp_131 ?_
              refine xi_istore_n (lv' := [some (.ref r), some (.int (((31 * ((31 * ((31 * ((31 * ((31 * ((31 * d) + sC S n)) + nI (sL S n))) + sF S n)) + nI (sR S n))) + (xo (sH S n) + 1))) + xo (sB S n)) + 1)), some (.int (nI n)), some (.int 1)]) dX6_sumUp_132 (by decide) rfl ?_
              refine xi_iinc (v := nI (n + 1)) (lv' := [some (.ref r), some (.int (((31 * ((31 * ((31 * ((31 * ((31 * ((31 * d) + sC S n)) + nI (sL S n))) + sF S n)) + nI (sR S n))) + (xo (sH S n) + 1))) + xo (sB S n)) + 1)), some (.int (nI (n + 1))), some (.int 1)]) dX6_sumUp_133 rfl (xinc n) (by decide) rfl ?_
              refine xi_goto 5 dX6_sumUp_136 (by decide) ?_
              refine xi_drop [true, true, true, false] rfl ?_
              have e : mdS G S n d = (((31 * ((31 * ((31 * ((31 * ((31 * ((31 * d) + sC S n)) + nI (sL S n))) + sF S n)) + nI (sR S n))) + (xo (sH S n) + 1))) + xo (sB S n)) + 1) := by unfold mdS; rw [if_pos h24]
              rw [mdT, e] at h
              exact ih (n + 1) _ (by omega) h

set_option maxHeartbeats 4000000 in
set_option maxRecDepth 100000 in
theorem s_dig {G : xG} {S : xS} {M : xM} {r : Nat} {Q : Option Value → xM → Prop} (hW : wG G) (hG : CG G M) (hr : isSt r) (hS : CS G S M r) (hw : wS G S)  (h : Q (some (.int (mdig G S))) M) : WP shC mX6_sumUp 0 [some (.ref r), none, none, none] [] M Q := by
  obtain ⟨b1, b2, b3, b4, b5, b6, b7, b8, b9, wmap, wlink, wk0, wk1, b10, b11, wword⟩ := id hW
  refine xi_bipush (v := 7) dX6_sumUp_0 (by decide) ?_
  refine xi_istore_n (lv' := [some (.ref r), some (.int 7), none, none]) dX6_sumUp_2 (by decide) rfl ?_
  refine xi_iconst (v := 0) dX6_sumUp_3 rfl ?_
  refine xi_istore_n (lv' := [some (.ref r), some (.int 7), some (.int 0), none]) dX6_sumUp_4 (by decide) rfl ?_
  exact l_digT hW hG hr hS hw (gT G) 0 7 (by omega) h

set_option maxHeartbeats 4000000 in
set_option maxRecDepth 100000 in
theorem l_add {G : xG} {S : xS} {M : xM} {r : Nat} {Q : Option Value → xM → Prop} (hW : wG G) (hG : CG G M) (hr : isSt r) (hS : CS G S M r) (hw : wS G S) {k : Nat} : ∀ (f n : Nat) (s : Int32), n + f = gT G → Q (some (.int (maddL G S k n f s))) M → WP shC mX6_addThingsIn 2 [some (.ref r), some (.int (nI k)), some (.int s), some (.int (nI n))] [] M Q := by
  obtain ⟨b1, b2, b3, b4, b5, b6, b7, b8, b9, wmap, wlink, wk0, wk1, b10, b11, wword⟩ := id hW
  intro f
  induction f with
  | zero =>
    intro n s hf h
    refine xi_iload_n dX6_addThingsIn_2 rfl ?_
    refine xi_aload_n dX6_addThingsIn_3 rfl ?_
    refine xi_getR dX6_addThingsIn_4 fgX6_39 (so hr) rfl ?_
    refine xe_getI (v := nI (gT G)) dX6_addThingsIn_7 fgX6_75 cc1 rfl (cg_T hG) ?_
    refine xn_icmp_ge n (gT G) 72 dX6_addThingsIn_10 (by decide) rfl rfl (by omega) (by omega) (fun h10 => ?_) (fun h10 => ?_)
    · skip
      refine xi_iload_n dX6_addThingsIn_72 rfl ?_
      refine xi_iret (v := s) dX6_addThingsIn_73 rfl ?_
      exact h
    · omega
  | succ f ih =>
    intro n s hf h
    refine xi_iload_n dX6_addThingsIn_2 rfl ?_
    refine xi_aload_n dX6_addThingsIn_3 rfl ?_
    refine xi_getR dX6_addThingsIn_4 fgX6_39 (so hr) rfl ?_
    refine xe_getI (v := nI (gT G)) dX6_addThingsIn_7 fgX6_75 cc1 rfl (cg_T hG) ?_
    refine xn_icmp_ge n (gT G) 72 dX6_addThingsIn_10 (by decide) rfl rfl (by omega) (by omega) (fun h10 => ?_) (fun h10 => ?_)
    · omega
    · skip
      refine xi_aload_n dX6_addThingsIn_13 rfl ?_
      refine xi_getR dX6_addThingsIn_14 fgX6_39 (so hr) rfl ?_
      refine xi_getR dX6_addThingsIn_17 fgX6_72 cc1 rfl ?_
      refine xi_iload_n dX6_addThingsIn_20 rfl ?_
      have q1 : gkind G n ≤ 7 := hW.kind (by omega)
      refine xe_iald (v := nI (gkind G n)) n dX6_addThingsIn_21 cc8 (by decide) rfl (by omega) (cg_kind hG (by omega)) ?_
      refine xi_iconst (v := 4) dX6_addThingsIn_22 rfl ?_
      refine xn_icmp_eq (gkind G n) 4 66 dX6_addThingsIn_23 (by decide) rfl rfl (by omega) (by omega) (fun h23 => ?_) (fun h23 => ?_)
      · skip
        refine xi_iinc (v := nI (n + 1)) (lv' := [some (.ref r), some (.int (nI k)), some (.int s), some (.int (nI (n + 1)))]) dX6_addThingsIn_66 rfl (xinc n) (by decide) rfl ?_
        refine xi_goto 2 dX6_addThingsIn_69 (by decide) ?_
        rw [maddL, if_neg (fun q => q.1 h23)] at h
        exact ih (n + 1) _ (by omega) h
      · skip
        refine xi_aload_n dX6_addThingsIn_26 rfl ?_
        refine xi_iload_n dX6_addThingsIn_27 rfl ?_
        refine xi_iload_n dX6_addThingsIn_28 rfl ?_
        refine xi_callV [.int (nI n), .int (nI k)] [] dX6_addThingsIn_29 zX6_standsOrLiesIn mlX6_126 (so hr) rfl rfl rfl rfl rfl (Nat.le_of_ble_eq_true rfl) (Nat.le_of_ble_eq_true rfl) ⟨by decide, by decide⟩ ?_
        refine s_at hW hG hr hS hw (n := n) (k := k) (by omega) ?_
        show WP _ _ 32 _ [.int (xb (mat G S n k))] _ _
        refine xb_if_eq (mat G S n k) 66 dX6_addThingsIn_32 (by decide) rfl (fun h32 => ?_) (fun h32 => ?_)
        · skip
          refine xi_iinc (v := nI (n + 1)) (lv' := [some (.ref r), some (.int (nI k)), some (.int s), some (.int (nI (n + 1)))]) dX6_addThingsIn_66 rfl (xinc n) (by decide) rfl ?_
          refine xi_goto 2 dX6_addThingsIn_69 (by decide) ?_
          rw [maddL, if_neg (fun q => by rw [h32] at q; cases q.2)] at h
          exact ih (n + 1) _ (by omega) h
        · skip
          refine xi_bipush (v := 31) dX6_addThingsIn_35 (by decide) ?_
          refine xi_iload_n dX6_addThingsIn_37 rfl ?_
          refine xi_imul dX6_addThingsIn_38 ?_
          refine xi_iload_n dX6_addThingsIn_39 rfl ?_
          refine xi_iadd dX6_addThingsIn_40 ?_
          refine xi_bipush (v := 32) dX6_addThingsIn_41 (by decide) ?_
          refine xi_aload_n dX6_addThingsIn_43 rfl ?_
          refine xi_getR dX6_addThingsIn_44 fgX6_39 (so hr) rfl ?_
          refine xi_getR dX6_addThingsIn_47 fgX6_72 cc1 rfl ?_
          refine xi_iload_n dX6_addThingsIn_50 rfl ?_
          have q2 : gkind G n ≤ 7 := hW.kind (by omega)
          refine xe_iald (v := nI (gkind G n)) n dX6_addThingsIn_51 cc8 (by decide) rfl (by omega) (cg_kind hG (by omega)) ?_
          refine xat 52 rfl ?_
          refine xe_imul dX6_addThingsIn_52 (v := nI (32 * (gkind G n))) (pk_mul 32 (gkind G n)) ?_
          refine xi_iadd dX6_addThingsIn_53 ?_
          refine xi_sipush (v := 512) dX6_addThingsIn_54 (by decide) ?_
          refine xi_aload_n dX6_addThingsIn_57 rfl ?_
          refine xi_getR dX6_addThingsIn_58 fgX6_15 (so hr) rfl ?_
          refine xi_iload_n dX6_addThingsIn_61 rfl ?_
          have q3 := (hw).2.1 n (by omega)
          refine xe_iald (v := nI (sL S n)) n dX6_addThingsIn_62 (sa2 hr) (by decide) rfl (by omega) (csL hS (by omega)) ?_
          refine xe_imul dX6_addThingsIn_63 (v := nI (512 * (sL S n))) (pk_mul 512 (sL S n)) ?_
          refine xi_iadd dX6_addThingsIn_64 ?_
          refine xi_istore_n (lv' := [some (.ref r), some (.int (nI k)), some (.int ((((31 * s) + nI n) + nI (32 * (gkind G n))) + nI (512 * (sL S n)))), some (.int (nI n))]) dX6_addThingsIn_65 (by decide) rfl ?_
          refine xi_iinc (v := nI (n + 1)) (lv' := [some (.ref r), some (.int (nI k)), some (.int ((((31 * s) + nI n) + nI (32 * (gkind G n))) + nI (512 * (sL S n)))), some (.int (nI (n + 1)))]) dX6_addThingsIn_66 rfl (xinc n) (by decide) rfl ?_
          refine xi_goto 2 dX6_addThingsIn_69 (by decide) ?_
          rw [maddL, if_pos ⟨h23, h32⟩] at h
          exact ih (n + 1) _ (by omega) h

set_option maxHeartbeats 4000000 in
set_option maxRecDepth 100000 in
theorem s_add {G : xG} {S : xS} {M : xM} {r : Nat} {Q : Option Value → xM → Prop} (hW : wG G) (hG : CG G M) (hr : isSt r) (hS : CS G S M r) (hw : wS G S) {k : Nat} {s : Int32} (h : Q (some (.int (maddL G S k 0 (gT G) s))) M) : WP shC mX6_addThingsIn 0 [some (.ref r), some (.int (nI k)), some (.int s), none] [] M Q := by
  obtain ⟨b1, b2, b3, b4, b5, b6, b7, b8, b9, wmap, wlink, wk0, wk1, b10, b11, wword⟩ := id hW
  refine xi_iconst (v := 0) dX6_addThingsIn_0 rfl ?_
  refine xi_istore_n (lv' := [some (.ref r), some (.int (nI k)), some (.int s), some (.int 0)]) dX6_addThingsIn_1 (by decide) rfl ?_
  exact l_add hW hG hr hS hw (gT G) 0 s (by omega) h

set_option maxHeartbeats 4000000 in
set_option maxRecDepth 100000 in
theorem l_letter {G : xG} {S : xS} {M : xM} {r : Nat} {Q : Option Value → xM → Prop} (hW : wG G) (hG : CG G M) (hr : isSt r) (hS : CS G S M r) (hw : wS G S) {p : Nat} (hp : p < gP G) : ∀ (f c : Nat) (s : Int32), c + f = gN G → Q (some (.int (31 * (31 * mletL G S p c f s + nI (sL S p) + nI (8 * sR S p) + 64 * (xo (sH S p) + 1)) + sK S p))) M → WP shC mX6_letterTo 15 [some (.ref r), some (.int (nI p)), some (.int s), some (.int (nI c))] [] M Q := by
  obtain ⟨b1, b2, b3, b4, b5, b6, b7, b8, b9, wmap, wlink, wk0, wk1, b10, b11, wword⟩ := id hW
  intro f
  induction f with
  | zero =>
    intro c s hf h
    refine xi_iload_n dX6_letterTo_15 rfl ?_
    refine xi_aload_n dX6_letterTo_16 rfl ?_
    refine xi_getR dX6_letterTo_17 fgX6_39 (so hr) rfl ?_
    refine xe_getI (v := nI (gN G)) dX6_letterTo_20 fgX6_129 cc1 rfl (cg_N hG) ?_
    refine xn_icmp_ge c (gN G) 65 dX6_letterTo_23 (by decide) rfl rfl (by omega) (by omega) (fun h23 => ?_) (fun h23 => ?_)
    · skip
      refine xi_bipush (v := 31) dX6_letterTo_65 (by decide) ?_
      refine xi_iload_n dX6_letterTo_67 rfl ?_
      refine xi_imul dX6_letterTo_68 ?_
      refine xi_aload_n dX6_letterTo_69 rfl ?_
      refine xi_getR dX6_letterTo_70 fgX6_15 (so hr) rfl ?_
      refine xi_iload_n dX6_letterTo_73 rfl ?_
      have q1 := (hw).2.1 p (by omega)
      refine xe_iald (v := nI (sL S p)) p dX6_letterTo_74 (sa2 hr) (by decide) rfl (by omega) (csL hS (by omega)) ?_
      refine xi_iadd dX6_letterTo_75 ?_
      refine xi_bipush (v := 8) dX6_letterTo_76 (by decide) ?_
      refine xi_aload_n dX6_letterTo_78 rfl ?_
      refine xi_getR dX6_letterTo_79 fgX6_24 (so hr) rfl ?_
      refine xat 82 rfl ?_
      refine xi_iload_n dX6_letterTo_82 rfl ?_
      have q2 := (hw).2.2.2.1 p (by omega)
      refine xe_iald (v := nI (sR S p)) p dX6_letterTo_83 (sa5 hr) (by decide) rfl (by omega) (csR hS (by omega)) ?_
      refine xe_imul dX6_letterTo_84 (v := nI (8 * (sR S p))) (pk_mul 8 (sR S p)) ?_
      refine xi_iadd dX6_letterTo_85 ?_
      refine xi_bipush (v := 64) dX6_letterTo_86 (by decide) ?_
      refine xi_aload_n dX6_letterTo_88 rfl ?_
      refine xi_getR dX6_letterTo_89 fgX6_27 (so hr) rfl ?_
      refine xi_iload_n dX6_letterTo_92 rfl ?_
      refine xe_iald (v := xo (sH S p)) p dX6_letterTo_93 (sa6 hr) (by decide) rfl (by omega) (csH hS (by omega)) ?_
      refine xi_iconst (v := 1) dX6_letterTo_94 rfl ?_
      refine xi_iadd dX6_letterTo_95 ?_
      refine xi_imul dX6_letterTo_96 ?_
      refine xat 97 rfl ?_
      refine xi_iadd dX6_letterTo_97 ?_
      refine xi_istore_n (lv' := [some (.ref r), some (.int (nI p)), some (.int ((((31 * s) + nI (sL S p)) + nI (8 * (sR S p))) + (64 * (xo (sH S p) + 1)))), some (.int (nI c))]) dX6_letterTo_98 (by decide) rfl ?_
      refine xi_bipush (v := 31) dX6_letterTo_99 (by decide) ?_
      refine xi_iload_n dX6_letterTo_101 rfl ?_
      refine xi_imul dX6_letterTo_102 ?_
      refine xi_aload_n dX6_letterTo_103 rfl ?_
      refine xi_getR dX6_letterTo_104 fgX6_33 (so hr) rfl ?_
      refine xi_iload_n dX6_letterTo_107 rfl ?_
      refine xe_iald (v := sK S p) p dX6_letterTo_108 (sa8 hr) (by decide) rfl (by omega) (csK hS (by omega)) ?_
      refine xi_iadd dX6_letterTo_109 ?_
      refine xi_iret (v := ((31 * ((((31 * s) + nI (sL S p)) + nI (8 * (sR S p))) + (64 * (xo (sH S p) + 1)))) + sK S p)) dX6_letterTo_110 rfl ?_
      exact h
    · omega
  | succ f ih =>
    intro c s hf h
    refine xi_iload_n dX6_letterTo_15 rfl ?_
    refine xi_aload_n dX6_letterTo_16 rfl ?_
    refine xi_getR dX6_letterTo_17 fgX6_39 (so hr) rfl ?_
    refine xe_getI (v := nI (gN G)) dX6_letterTo_20 fgX6_129 cc1 rfl (cg_N hG) ?_
    refine xn_icmp_ge c (gN G) 65 dX6_letterTo_23 (by decide) rfl rfl (by omega) (by omega) (fun h23 => ?_) (fun h23 => ?_)
    · omega
    · skip
      refine xi_aload_n dX6_letterTo_26 rfl ?_
      refine xi_iload_n dX6_letterTo_27 rfl ?_
      refine xi_iload_n dX6_letterTo_28 rfl ?_
      refine xi_callV [.int (nI p), .int (nI c)] [] dX6_letterTo_29 zX6_spots mlX6_120 (so hr) rfl rfl rfl rfl rfl (Nat.le_of_ble_eq_true rfl) (Nat.le_of_ble_eq_true rfl) ⟨by decide, by decide⟩ ?_
      refine s_spot hW hG hr hS hw (p := p) (k := c) (by omega) (by omega) ?_
      show WP _ _ 32 _ [.int (xb (mspot G S p c))] _ _
      refine xb_if_eq (mspot G S p c) 59 dX6_letterTo_32 (by decide) rfl (fun h32 => ?_) (fun h32 => ?_)
      · skip
        refine xi_iinc (v := nI (c + 1)) (lv' := [some (.ref r), some (.int (nI p)), some (.int s), some (.int (nI (c + 1)))]) dX6_letterTo_59 rfl (xinc c) (by decide) rfl ?_
        refine xi_goto 15 dX6_letterTo_62 (by decide) ?_
        rw [mletL, if_neg (by simp [h32])] at h
        exact ih (c + 1) _ (by omega) h
      · skip
        refine xi_bipush (v := 31) dX6_letterTo_35 (by decide) ?_
        refine xi_iload_n dX6_letterTo_37 rfl ?_
        refine xi_imul dX6_letterTo_38 ?_
        refine xi_iload_n dX6_letterTo_39 rfl ?_
        refine xi_iadd dX6_letterTo_40 ?_
        refine xi_sipush (v := 128) dX6_letterTo_41 (by decide) ?_
        refine xi_aload_n dX6_letterTo_44 rfl ?_
        refine xi_iload_n dX6_letterTo_45 rfl ?_
        refine xi_callV [.int (nI c)] [.int 128, .int ((31 * s) + nI c)] dX6_letterTo_46 zX6_looksOf mlX6_123 (so hr) rfl rfl rfl rfl rfl (Nat.le_of_ble_eq_true rfl) (Nat.le_of_ble_eq_true rfl) ⟨by decide, by decide⟩ ?_
        refine s_look hW hG hr hS (k := c) (by omega) ?_
        show WP _ _ 49 _ [.int (nI (mlook G S c)), .int 128, .int ((31 * s) + nI c)] _ _
        have hlk := mlook_le (S := S) hW (show c < gN G by omega)
        refine xe_imul dX6_letterTo_49 (v := nI (128 * (mlook G S c))) (pk_mul 128 (mlook G S c)) ?_
        refine xi_iadd dX6_letterTo_50 ?_
        refine xi_istore_n (lv' := [some (.ref r), some (.int (nI p)), some (.int (((31 * s) + nI c) + nI (128 * (mlook G S c)))), some (.int (nI c))]) dX6_letterTo_51 (by decide) rfl ?_
        refine xi_aload_n dX6_letterTo_52 rfl ?_
        refine xi_iload_n dX6_letterTo_53 rfl ?_
        refine xi_iload_n dX6_letterTo_54 rfl ?_
        refine xi_callV [.int (nI c), .int (((31 * s) + nI c) + nI (128 * (mlook G S c)))] [] dX6_letterTo_55 zX6_addThingsIn mlX6_132 (so hr) rfl rfl rfl rfl rfl (Nat.le_of_ble_eq_true rfl) (Nat.le_of_ble_eq_true rfl) ⟨by decide, by decide⟩ ?_
        refine s_add hW hG hr hS hw (k := c) (s := (((31 * s) + nI c) + nI (128 * (mlook G S c)))) ?_
        show WP _ _ 58 _ [.int (maddL G S c 0 (gT G) (((31 * s) + nI c) + nI (128 * (mlook G S c))))] _ _
        refine xi_istore_n (lv' := [some (.ref r), some (.int (nI p)), some (.int (maddL G S c 0 (gT G) (((31 * s) + nI c) + nI (128 * (mlook G S c))))), some (.int (nI c))]) dX6_letterTo_58 (by decide) rfl ?_
        refine xi_iinc (v := nI (c + 1)) (lv' := [some (.ref r), some (.int (nI p)), some (.int (maddL G S c 0 (gT G) (((31 * s) + nI c) + nI (128 * (mlook G S c))))), some (.int (nI (c + 1)))]) dX6_letterTo_59 rfl (xinc c) (by decide) rfl ?_
        refine xi_goto 15 dX6_letterTo_62 (by decide) ?_
        rw [mletL, if_pos h32] at h
        exact ih (c + 1) _ (by omega) h

set_option maxHeartbeats 4000000 in
set_option maxRecDepth 100000 in
theorem s_letter {G : xG} {S : xS} {M : xM} {r : Nat} {Q : Option Value → xM → Prop} (hW : wG G) (hG : CG G M) (hr : isSt r) (hS : CS G S M r) (hw : wS G S) {p : Nat} (hp : p < gP G) (h : Q (some (.int (mletter G S p))) M) : WP shC mX6_letterTo 0 [some (.ref r), some (.int (nI p)), none, none] [] M Q := by
  obtain ⟨b1, b2, b3, b4, b5, b6, b7, b8, b9, wmap, wlink, wk0, wk1, b10, b11, wword⟩ := id hW
  refine xi_aload_n dX6_letterTo_0 rfl ?_
  refine xi_getR dX6_letterTo_1 fgX6_15 (so hr) rfl ?_
  refine xi_iload_n dX6_letterTo_4 rfl ?_
  have q1 := (hw).2.1 p (by omega)
  refine xe_iald (v := nI (sL S p)) p dX6_letterTo_5 (sa2 hr) (by decide) rfl (by omega) (csL hS (by omega)) ?_
  refine xn_if_gt (sL S p) 11 dX6_letterTo_6 (by decide) rfl (by omega) (fun h6 => ?_) (fun h6 => ?_)
  · skip
    refine xi_iconst (v := 1) dX6_letterTo_11 rfl ?_
    refine xi_istore_n (lv' := [some (.ref r), some (.int (nI p)), some (.int 1), none]) dX6_letterTo_12 (by decide) rfl ?_
    refine xi_iconst (v := 0) dX6_letterTo_13 rfl ?_
    refine xi_istore_n (lv' := [some (.ref r), some (.int (nI p)), some (.int 1), some (.int 0)]) dX6_letterTo_14 (by decide) rfl ?_
    rw [mletter, if_pos h6] at h
    exact l_letter hW hG hr hS hw hp (gN G) 0 1 (by omega) h
  · skip
    refine xi_iconst (v := 0) dX6_letterTo_9 rfl ?_
    refine xi_iret (v := 0) dX6_letterTo_10 rfl ?_
    rw [mletter, if_neg (by omega)] at h
    exact h

set_option maxHeartbeats 4000000 in
set_option maxRecDepth 100000 in
theorem s_forb {G : xG} {S : xS} {M : xM} {r : Nat} {Q : Option Value → xM → Prop} (hW : wG G) (hG : CG G M) (hr : isSt r) (hS : CS G S M r) (hw : wS G S) {p c : Nat} (hp : p < gP G) (hc : c ≤ 4096) (h : Q (some (.int (xb (mforb G S p c)))) M) : WP shC mX6_forbids 0 [some (.ref r), some (.int (nI p)), some (.int (nI c))] [] M Q := by
  obtain ⟨b1, b2, b3, b4, b5, b6, b7, b8, b9, wmap, wlink, wk0, wk1, b10, b11, wword⟩ := id hW
  have hmp := mpos_P hW hw hp
  refine xi_iload_n dX6_forbids_0 rfl ?_
  refine xi_callS [.int (nI c)] [] dX6_forbids_1 zX0_kindOf mlX6_138 rfl rfl rfl (Nat.le_of_ble_eq_true rfl) (Nat.le_of_ble_eq_true rfl) ⟨by decide, by decide⟩ ?_
  refine k_kind (c := c) (by omega) ?_
  show WP _ _ 4 _ [.int (nI (c % 16))] _ _
  by_cases h4_2 : c % 16 = 2
  · refine xi_tableIn 40 0 dX6_forbids_4 (by rw [nI_toInt (by omega), h4_2]; rfl) (by decide) rfl (by decide) ?_
    refine xi_aload_n dX6_forbids_40 rfl ?_
    refine xi_getR dX6_forbids_41 fgX6_24 (so hr) rfl ?_
    refine xi_iload_n dX6_forbids_44 rfl ?_
    have q1 := (hw).2.2.2.1 p (by omega)
    refine xe_iald (v := nI (sR S p)) p dX6_forbids_45 (sa5 hr) (by decide) rfl (by omega) (csR hS (by omega)) ?_
    refine xn_if_le (sR S p) 53 dX6_forbids_46 (by decide) rfl (by omega) (fun h46 => ?_) (fun h46 => ?_)
    · skip
      refine xi_iconst (v := 0) dX6_forbids_53 rfl ?_
      refine xi_zret (v := 0) dX6_forbids_54 rfl (by decide) ?_
      have e : mforb G S p c = false := by
        unfold mforb
        rw [h4_2]
        simp [h46]
      rw [e] at h
      exact h
    · skip
      refine xi_iconst (v := 1) dX6_forbids_49 rfl ?_
      refine xi_goto 54 dX6_forbids_50 (by decide) ?_
      refine xi_zret (v := 1) dX6_forbids_54 rfl (by decide) ?_
      have e : mforb G S p c = true := by
        unfold mforb
        rw [h4_2]
        simp [h46]
      rw [e] at h
      exact h
  by_cases h4_3 : c % 16 = 3
  · refine xi_tableIn 55 1 dX6_forbids_4 (by rw [nI_toInt (by omega), h4_3]; rfl) (by decide) rfl (by decide) ?_
    refine xi_aload_n dX6_forbids_55 rfl ?_
    refine xi_aload_n dX6_forbids_56 rfl ?_
    refine xi_getR dX6_forbids_57 fgX6_39 (so hr) rfl ?_
    refine xi_aload_n dX6_forbids_60 rfl ?_
    refine xi_getR dX6_forbids_61 fgX6_9 (so hr) rfl ?_
    refine xi_iload_n dX6_forbids_64 rfl ?_
    refine xe_iald (v := nI (mpos S p)) p dX6_forbids_65 (sa1 hr) (by decide) rfl (by omega) ((csC hS (by omega)).trans hmp.1) ?_
    refine xi_iload_n dX6_forbids_66 rfl ?_
    refine xi_callS [.int (nI c)] [.int (nI (mpos S p)), .ref 1, .ref r] dX6_forbids_67 zX0_directionOf mlX6_143 rfl rfl rfl (Nat.le_of_ble_eq_true rfl) (Nat.le_of_ble_eq_true rfl) ⟨by decide, by decide⟩ ?_
    refine k_dir (c := c) (by omega) ?_
    show WP _ _ 70 _ [.int (nI (c / 16 % 4)), .int (nI (mpos S p)), .ref 1, .ref r] _ _
    refine xi_callV [.int (nI (mpos S p)), .int (nI (c / 16 % 4))] [.ref r] dX6_forbids_70 zX1_nextTo mlX6_146 cc1 rfl rfl rfl rfl rfl (Nat.le_of_ble_eq_true rfl) (Nat.le_of_ble_eq_true rfl) ⟨by decide, by decide⟩ ?_
    refine g_next hW hG (k := mpos S p) (d := c / 16 % 4) (by omega) (by omega) ?_
    show WP _ _ 73 _ [.int (xo (mnext G (mpos S p) (c / 16 % 4))), .ref r] _ _
    generalize eo70 : mnext G (mpos S p) (c / 16 % 4) = o70
    refine xi_callV [.int (xo o70)] [] dX6_forbids_73 zX6_isDoor mlX6_149 (so hr) rfl rfl rfl rfl rfl (Nat.le_of_ble_eq_true rfl) (Nat.le_of_ble_eq_true rfl) ⟨by decide, by decide⟩ ?_
    refine s_door hW hG hr hS (o := o70) (fun j z => mnext_lt hW hmp.2 (eo70.trans z)) ?_
    show WP _ _ 76 _ [.int (xb (mdoorO G o70))] _ _
    refine xb_if_ne (mdoorO G o70) 83 dX6_forbids_76 (by decide) rfl (fun h76 => ?_) (fun h76 => ?_)
    · skip
      refine xi_iconst (v := 0) dX6_forbids_83 rfl ?_
      refine xi_zret (v := 0) dX6_forbids_84 rfl (by decide) ?_
      have e : mforb G S p c = false := by
        unfold mforb
        rw [h4_3]
        simp [eo70, h76]
      rw [e] at h
      exact h
    · skip
      refine xi_iconst (v := 1) dX6_forbids_79 rfl ?_
      refine xi_goto 84 dX6_forbids_80 (by decide) ?_
      refine xi_zret (v := 1) dX6_forbids_84 rfl (by decide) ?_
      have e : mforb G S p c = true := by
        unfold mforb
        rw [h4_3]
        simp [eo70, h76]
      rw [e] at h
      exact h
  by_cases h4_4 : c % 16 = 4
  · refine xi_tableIn 85 2 dX6_forbids_4 (by rw [nI_toInt (by omega), h4_4]; rfl) (by decide) rfl (by decide) ?_
    refine xi_aload_n dX6_forbids_85 rfl ?_
    refine xi_getR dX6_forbids_86 fgX6_27 (so hr) rfl ?_
    refine xi_iload_n dX6_forbids_89 rfl ?_
    obtain ⟨o2, ho2⟩ : ∃ o, o = sH S p := ⟨_, rfl⟩
    refine xe_iald (v := xo o2) p dX6_forbids_90 (sa6 hr) (by decide) rfl (by omega) (by rw [ho2]; exact csH hS (by omega)) ?_
    refine xo_if_lt o2 98 dX6_forbids_91 (by decide) rfl (fun j q => by have := hw.2.2.2.2 p hp j (ho2.symm.trans q); omega) (fun h91 => ?_) (fun j h91 => ?_)
    · subst h91
      refine xi_iconst (v := 0) dX6_forbids_98 rfl ?_
      refine xi_zret (v := 0) dX6_forbids_99 rfl (by decide) ?_
      have e : mforb G S p c = false := by
        unfold mforb
        rw [h4_4]
        simp [← ho2]
      rw [e] at h
      exact h
    · subst h91
      refine xi_iconst (v := 1) dX6_forbids_94 rfl ?_
      refine xi_goto 99 dX6_forbids_95 (by decide) ?_
      refine xi_zret (v := 1) dX6_forbids_99 rfl (by decide) ?_
      have e : mforb G S p c = true := by
        unfold mforb
        rw [h4_4]
        simp [← ho2]
      rw [e] at h
      exact h
  by_cases h4_5 : c % 16 = 5
  · refine xi_tableIn 100 3 dX6_forbids_4 (by rw [nI_toInt (by omega), h4_5]; rfl) (by decide) rfl (by decide) ?_
    refine xi_aload_n dX6_forbids_100 rfl ?_
    refine xi_getR dX6_forbids_101 fgX6_27 (so hr) rfl ?_
    refine xi_iload_n dX6_forbids_104 rfl ?_
    obtain ⟨o3, ho3⟩ : ∃ o, o = sH S p := ⟨_, rfl⟩
    refine xe_iald (v := xo o3) p dX6_forbids_105 (sa6 hr) (by decide) rfl (by omega) (by rw [ho3]; exact csH hS (by omega)) ?_
    refine xo_if_ge o3 113 dX6_forbids_106 (by decide) rfl (fun j q => by have := hw.2.2.2.2 p hp j (ho3.symm.trans q); omega) (fun j h106 => ?_) (fun h106 => ?_)
    · subst h106
      refine xi_iconst (v := 0) dX6_forbids_113 rfl ?_
      refine xi_zret (v := 0) dX6_forbids_114 rfl (by decide) ?_
      have e : mforb G S p c = false := by
        unfold mforb
        rw [h4_5]
        simp [← ho3]
      rw [e] at h
      exact h
    · subst h106
      refine xi_iconst (v := 1) dX6_forbids_109 rfl ?_
      refine xi_goto 114 dX6_forbids_110 (by decide) ?_
      refine xi_zret (v := 1) dX6_forbids_114 rfl (by decide) ?_
      have e : mforb G S p c = true := by
        unfold mforb
        rw [h4_5]
        simp [← ho3]
      rw [e] at h
      exact h
  by_cases h4_6 : c % 16 = 6
  · refine xi_tableIn 115 4 dX6_forbids_4 (by rw [nI_toInt (by omega), h4_6]; rfl) (by decide) rfl (by decide) ?_
    refine xi_aload_n dX6_forbids_115 rfl ?_
    refine xi_iload_n dX6_forbids_116 rfl ?_
    refine xi_iconst (v := 5) dX6_forbids_117 rfl ?_
    refine xi_callV [.int (nI p), .int 5] [] dX6_forbids_118 zX6_carries mlX6_112 (so hr) rfl rfl rfl rfl rfl (Nat.le_of_ble_eq_true rfl) (Nat.le_of_ble_eq_true rfl) ⟨by decide, by decide⟩ ?_
    refine s_car hW hG hr hS hw (p := p) (q := 5) (by omega) (by omega) ?_
    show WP _ _ 121 _ [.int (xb (mcar G S p 5))] _ _
    refine xb_if_ne (mcar G S p 5) 128 dX6_forbids_121 (by decide) rfl (fun h121 => ?_) (fun h121 => ?_)
    · skip
      refine xi_iconst (v := 0) dX6_forbids_128 rfl ?_
      refine xi_zret (v := 0) dX6_forbids_129 rfl (by decide) ?_
      have e : mforb G S p c = false := by
        unfold mforb
        rw [h4_6]
        simp [h121]
      rw [e] at h
      exact h
    · skip
      refine xi_iconst (v := 1) dX6_forbids_124 rfl ?_
      refine xi_goto 129 dX6_forbids_125 (by decide) ?_
      refine xi_zret (v := 1) dX6_forbids_129 rfl (by decide) ?_
      have e : mforb G S p c = true := by
        unfold mforb
        rw [h4_6]
        simp [h121]
      rw [e] at h
      exact h
  refine xi_tableOut 130 dX6_forbids_4 (by decide) (by rw [nI_toInt (by omega)]; omega) ?_
  refine xi_iconst (v := 0) dX6_forbids_130 rfl ?_
  refine xi_zret (v := 0) dX6_forbids_131 rfl (by decide) ?_
  have e : mforb G S p c = false := by
    unfold mforb
    split <;> first | rfl | (exfalso; omega)
  rw [e] at h
  exact h

set_option maxHeartbeats 4000000 in
set_option maxRecDepth 100000 in
theorem l_uns {G : xG} {S : xS} {M : xM} {r : Nat} {Q : Option Value → xM → Prop} (hW : wG G) (hG : CG G M) (hr : isSt r) (hS : CS G S M r) (hw : wS G S) {p d : Nat} (hp : p < gP G) (hd : d < 4) : ∀ (f i : Nat) (o : Option Nat) (a : Nat), i + f = 7 → a ≤ i → (∀ k, o = some k → k < gN G) → Q (some (.int (nI (munL G S p d f o a)))) M → WP shC mX6_unseenInLine 21 [some (.ref r), some (.int (nI p)), some (.int (nI d)), some (.int (nI a)), some (.int (xo o)), some (.int (nI i))] [] M Q := by
  obtain ⟨b1, b2, b3, b4, b5, b6, b7, b8, b9, wmap, wlink, wk0, wk1, b10, b11, wword⟩ := id hW
  intro f
  induction f with
  | zero =>
    intro i o a hf ha ho h
    refine xi_iload dX6_unseenInLine_21 rfl ?_
    refine xi_bipush (v := 7) dX6_unseenInLine_23 (by decide) ?_
    refine xn_icmp_ge i 7 87 dX6_unseenInLine_25 (by decide) rfl rfl (by omega) (by omega) (fun h25 => ?_) (fun h25 => ?_)
    · skip
      refine xi_iload_n dX6_unseenInLine_87 rfl ?_
      refine xi_iret (v := nI a) dX6_unseenInLine_88 rfl ?_
      exact h
    · omega
  | succ f ih =>
    intro i o a hf ha ho h
    refine xi_iload dX6_unseenInLine_21 rfl ?_
    refine xi_bipush (v := 7) dX6_unseenInLine_23 (by decide) ?_
    refine xn_icmp_ge i 7 87 dX6_unseenInLine_25 (by decide) rfl rfl (by omega) (by omega) (fun h25 => ?_) (fun h25 => ?_)
    · omega
    · skip
      refine xi_iload dX6_unseenInLine_28 rfl ?_
      refine xo_if_lt o 87 dX6_unseenInLine_30 (by decide) rfl (fun k q => by have := ho k q; omega) (fun h30 => ?_) (fun k h30 => ?_)
      · subst h30
        refine xi_iload_n dX6_unseenInLine_87 rfl ?_
        refine xi_iret (v := nI a) dX6_unseenInLine_88 rfl ?_
        exact h
      · subst h30
        have hk := ho k rfl
        refine xi_aload_n dX6_unseenInLine_33 rfl ?_
        refine xi_iload dX6_unseenInLine_34 rfl ?_
        refine xi_callV [.int (xo (some k))] [] dX6_unseenInLine_36 zX6_bars mlX6_84 (so hr) rfl rfl rfl rfl rfl (Nat.le_of_ble_eq_true rfl) (Nat.le_of_ble_eq_true rfl) ⟨by decide, by decide⟩ ?_
        refine s_bars hW hG hr hS (k := k) (by omega) ?_
        show WP _ _ 39 _ [.int (xb (mbars G S k))] _ _
        refine xb_if_ne (mbars G S k) 87 dX6_unseenInLine_39 (by decide) rfl (fun h39 => ?_) (fun h39 => ?_)
        · skip
          refine xi_iload_n dX6_unseenInLine_87 rfl ?_
          refine xi_iret (v := nI a) dX6_unseenInLine_88 rfl ?_
          rw [munL, if_pos h39] at h
          exact h
        · skip
          refine xi_aload_n dX6_unseenInLine_42 rfl ?_
          refine xi_iload_n dX6_unseenInLine_43 rfl ?_
          refine xi_iload dX6_unseenInLine_44 rfl ?_
          refine xi_callV [.int (nI p), .int (xo (some k))] [] dX6_unseenInLine_46 zX6_spots mlX6_120 (so hr) rfl rfl rfl rfl rfl (Nat.le_of_ble_eq_true rfl) (Nat.le_of_ble_eq_true rfl) ⟨by decide, by decide⟩ ?_
          refine s_spot hW hG hr hS hw (p := p) (k := k) (by omega) (by omega) ?_
          show WP _ _ 49 _ [.int (xb (mspot G S p k))] _ _
          refine xb_if_ne (mspot G S p k) 58 dX6_unseenInLine_49 (by decide) rfl (fun h49 => ?_) (fun h49 => ?_)
          · skip
            refine xi_aload_n dX6_unseenInLine_58 rfl ?_
            refine xi_iload dX6_unseenInLine_59 rfl ?_
            refine xi_callV [.int (xo (some k))] [] dX6_unseenInLine_61 zX6_standingIn mlX6_88 (so hr) rfl rfl rfl rfl rfl (Nat.le_of_ble_eq_true rfl) (Nat.le_of_ble_eq_true rfl) ⟨by decide, by decide⟩ ?_
            refine s_stand hW hG hr hS hw (k := k) ?_
            show WP _ _ 64 _ [.int (xo (mstand G S k))] _ _
            generalize eo61 : mstand G S k = o61
            refine xo_if_lt o61 69 dX6_unseenInLine_64 (by decide) rfl (fun m q => by have := mstand_lt (eo61.trans q); omega) (fun h64 => ?_) (fun m h64 => ?_)
            · subst h64
              refine xi_aload_n dX6_unseenInLine_69 rfl ?_
              refine xi_getR dX6_unseenInLine_70 fgX6_39 (so hr) rfl ?_
              refine xi_iload dX6_unseenInLine_73 rfl ?_
              refine xi_iload_n dX6_unseenInLine_75 rfl ?_
              refine xi_callV [.int (xo (some k)), .int (nI d)] [] dX6_unseenInLine_76 zX1_nextTo mlX6_146 cc1 rfl rfl rfl rfl rfl (Nat.le_of_ble_eq_true rfl) (Nat.le_of_ble_eq_true rfl) ⟨by decide, by decide⟩ ?_
              refine g_next hW hG (k := k) (d := d) (by omega) (by omega) ?_
              show WP _ _ 79 _ [.int (xo (mnext G k d))] _ _
              generalize eo76 : mnext G k d = o76
              refine xi_istore (lv' := [some (.ref r), some (.int (nI p)), some (.int (nI d)), some (.int (nI a)), some (.int (xo o76)), some (.int (nI i))]) dX6_unseenInLine_79 (by decide) rfl ?_
              refine xi_iinc (v := nI (i + 1)) (lv' := [some (.ref r), some (.int (nI p)), some (.int (nI d)), some (.int (nI a)), some (.int (xo o76)), some (.int (nI (i + 1)))]) dX6_unseenInLine_81 rfl (xinc i) (by decide) rfl ?_
              refine xi_goto 21 dX6_unseenInLine_84 (by decide) ?_
              have e : munL G S p d (f + 1) (some k) a = munL G S p d f o76 (a) := by rw [munL, if_neg (by simp [h39]), if_pos h49, eo61, eo76]
              rw [e] at h
              exact ih (i + 1) o76 (a) (by omega) (by omega) (fun j q => mnext_lt hW hk (eo76.trans q)) h
            · subst h64
              refine xi_iconst (v := 0) dX6_unseenInLine_67 rfl ?_
              refine xi_iret (v := 0) dX6_unseenInLine_68 rfl ?_
              have e : munL G S p d (f + 1) (some k) a = 0 := by rw [munL, if_neg (by simp [h39]), if_pos h49, eo61]
              rw [e] at h
              exact h
          · skip
            refine xi_iinc (v := nI (a + 1)) (lv' := [some (.ref r), some (.int (nI p)), some (.int (nI d)), some (.int (nI (a + 1))), some (.int (xo (some k))), some (.int (nI i))]) dX6_unseenInLine_52 rfl (xinc a) (by decide) rfl ?_
            refine xi_goto 69 dX6_unseenInLine_55 (by decide) ?_
            refine xi_aload_n dX6_unseenInLine_69 rfl ?_
            refine xi_getR dX6_unseenInLine_70 fgX6_39 (so hr) rfl ?_
            refine xi_iload dX6_unseenInLine_73 rfl ?_
            refine xi_iload_n dX6_unseenInLine_75 rfl ?_
            refine xi_callV [.int (xo (some k)), .int (nI d)] [] dX6_unseenInLine_76 zX1_nextTo mlX6_146 cc1 rfl rfl rfl rfl rfl (Nat.le_of_ble_eq_true rfl) (Nat.le_of_ble_eq_true rfl) ⟨by decide, by decide⟩ ?_
            refine g_next hW hG (k := k) (d := d) (by omega) (by omega) ?_
            show WP _ _ 79 _ [.int (xo (mnext G k d))] _ _
            generalize eo76 : mnext G k d = o76
            refine xi_istore (lv' := [some (.ref r), some (.int (nI p)), some (.int (nI d)), some (.int (nI (a + 1))), some (.int (xo o76)), some (.int (nI i))]) dX6_unseenInLine_79 (by decide) rfl ?_
            refine xi_iinc (v := nI (i + 1)) (lv' := [some (.ref r), some (.int (nI p)), some (.int (nI d)), some (.int (nI (a + 1))), some (.int (xo o76)), some (.int (nI (i + 1)))]) dX6_unseenInLine_81 rfl (xinc i) (by decide) rfl ?_
            refine xi_goto 21 dX6_unseenInLine_84 (by decide) ?_
            have e : munL G S p d (f + 1) (some k) a = munL G S p d f o76 (a + 1) := by rw [munL, if_neg (by simp [h39]), if_neg (by simp [h49]), eo76]
            rw [e] at h
            exact ih (i + 1) o76 (a + 1) (by omega) (by omega) (fun j q => mnext_lt hW hk (eo76.trans q)) h

set_option maxHeartbeats 4000000 in
set_option maxRecDepth 100000 in
theorem s_uns {G : xG} {S : xS} {M : xM} {r : Nat} {Q : Option Value → xM → Prop} (hW : wG G) (hG : CG G M) (hr : isSt r) (hS : CS G S M r) (hw : wS G S) {p d : Nat} (hp : p < gP G) (hd : d < 4) (h : Q (some (.int (nI (munseen G S p d)))) M) : WP shC mX6_unseenInLine 0 [some (.ref r), some (.int (nI p)), some (.int (nI d)), none, none, none] [] M Q := by
  obtain ⟨b1, b2, b3, b4, b5, b6, b7, b8, b9, wmap, wlink, wk0, wk1, b10, b11, wword⟩ := id hW
  have hmp := mpos_P hW hw hp
  refine xi_iconst (v := 0) dX6_unseenInLine_0 rfl ?_
  refine xi_istore_n (lv' := [some (.ref r), some (.int (nI p)), some (.int (nI d)), some (.int 0), none, none]) dX6_unseenInLine_1 (by decide) rfl ?_
  refine xi_aload_n dX6_unseenInLine_2 rfl ?_
  refine xi_getR dX6_unseenInLine_3 fgX6_39 (so hr) rfl ?_
  refine xi_aload_n dX6_unseenInLine_6 rfl ?_
  refine xi_getR dX6_unseenInLine_7 fgX6_9 (so hr) rfl ?_
  refine xi_iload_n dX6_unseenInLine_10 rfl ?_
  refine xe_iald (v := nI (mpos S p)) p dX6_unseenInLine_11 (sa1 hr) (by decide) rfl (by omega) ((csC hS (by omega)).trans hmp.1) ?_
  refine xi_iload_n dX6_unseenInLine_12 rfl ?_
  refine xi_callV [.int (nI (mpos S p)), .int (nI d)] [] dX6_unseenInLine_13 zX1_nextTo mlX6_146 cc1 rfl rfl rfl rfl rfl (Nat.le_of_ble_eq_true rfl) (Nat.le_of_ble_eq_true rfl) ⟨by decide, by decide⟩ ?_
  refine g_next hW hG (k := mpos S p) (d := d) (by omega) (by omega) ?_
  show WP _ _ 16 _ [.int (xo (mnext G (mpos S p) d))] _ _
  generalize eo13 : mnext G (mpos S p) d = o13
  refine xi_istore (lv' := [some (.ref r), some (.int (nI p)), some (.int (nI d)), some (.int 0), some (.int (xo o13)), none]) dX6_unseenInLine_16 (by decide) rfl ?_
  refine xi_iconst (v := 0) dX6_unseenInLine_18 rfl ?_
  refine xi_istore (lv' := [some (.ref r), some (.int (nI p)), some (.int (nI d)), some (.int 0), some (.int (xo o13)), some (.int 0)]) dX6_unseenInLine_19 (by decide) rfl ?_
  rw [munseen, eo13] at h
  exact l_uns hW hG hr hS hw hp hd 7 0 o13 0 (by omega) (by omega) (fun j q => mnext_lt hW hmp.2 (eo13.trans q)) h

set_option maxHeartbeats 4000000 in
set_option maxRecDepth 100000 in
theorem l_hid {G : xG} {S : xS} {M : xM} {r : Nat} {Q : Option Value → xM → Prop} (hW : wG G) (hG : CG G M) (hr : isSt r) (hS : CS G S M r) (hw : wS G S) {p : Nat} (hp : p < gP G) : ∀ (f n a : Nat), n + f = gT G → a ≤ n → Q (some (.int (nI (mhidL G S p n f a)))) M → WP shC mX6_hiddenThings 4 [some (.ref r), some (.int (nI p)), some (.int (nI a)), some (.int (nI n))] [] M Q := by
  obtain ⟨b1, b2, b3, b4, b5, b6, b7, b8, b9, wmap, wlink, wk0, wk1, b10, b11, wword⟩ := id hW
  intro f
  induction f with
  | zero =>
    intro n a hf ha h
    refine xi_iload_n dX6_hiddenThings_4 rfl ?_
    refine xi_aload_n dX6_hiddenThings_5 rfl ?_
    refine xi_getR dX6_hiddenThings_6 fgX6_39 (so hr) rfl ?_
    refine xe_getI (v := nI (gT G)) dX6_hiddenThings_9 fgX6_75 cc1 rfl (cg_T hG) ?_
    refine xn_icmp_ge n (gT G) 47 dX6_hiddenThings_12 (by decide) rfl rfl (by omega) (by omega) (fun h12 => ?_) (fun h12 => ?_)
    · skip
      refine xi_iload_n dX6_hiddenThings_47 rfl ?_
      refine xi_iret (v := nI a) dX6_hiddenThings_48 rfl ?_
      exact h
    · omega
  | succ f ih =>
    intro n a hf ha h
    refine xi_iload_n dX6_hiddenThings_4 rfl ?_
    refine xi_aload_n dX6_hiddenThings_5 rfl ?_
    refine xi_getR dX6_hiddenThings_6 fgX6_39 (so hr) rfl ?_
    refine xe_getI (v := nI (gT G)) dX6_hiddenThings_9 fgX6_75 cc1 rfl (cg_T hG) ?_
    refine xn_icmp_ge n (gT G) 47 dX6_hiddenThings_12 (by decide) rfl rfl (by omega) (by omega) (fun h12 => ?_) (fun h12 => ?_)
    · omega
    · skip
      refine xi_aload_n dX6_hiddenThings_15 rfl ?_
      refine xi_getR dX6_hiddenThings_16 fgX6_15 (so hr) rfl ?_
      refine xi_iload_n dX6_hiddenThings_19 rfl ?_
      have q1 := (hw).2.1 n (by omega)
      refine xe_iald (v := nI (sL S n)) n dX6_hiddenThings_20 (sa2 hr) (by decide) rfl (by omega) (csL hS (by omega)) ?_
      refine xn_if_le (sL S n) 41 dX6_hiddenThings_21 (by decide) rfl (by omega) (fun h21 => ?_) (fun h21 => ?_)
      · skip
        refine xi_iinc (v := nI (n + 1)) (lv' := [some (.ref r), some (.int (nI p)), some (.int (nI a)), some (.int (nI (n + 1)))]) dX6_hiddenThings_41 rfl (xinc n) (by decide) rfl ?_
        refine xi_goto 4 dX6_hiddenThings_44 (by decide) ?_
        rw [mhidL, if_neg (fun q => by omega)] at h
        exact ih (n + 1) (a) (by omega) (by omega) h
      · skip
        have hkn := hw.2.2.1 n (by omega) h21
        have hpn := mpos_at hW hw (show n < gT G by omega) hkn
        refine xi_aload_n dX6_hiddenThings_24 rfl ?_
        refine xi_iload_n dX6_hiddenThings_25 rfl ?_
        refine xi_aload_n dX6_hiddenThings_26 rfl ?_
        refine xi_getR dX6_hiddenThings_27 fgX6_9 (so hr) rfl ?_
        refine xi_iload_n dX6_hiddenThings_30 rfl ?_
        refine xe_iald (v := nI (mpos S n)) n dX6_hiddenThings_31 (sa1 hr) (by decide) rfl (by omega) ((csC hS (by omega)).trans hpn.1) ?_
        refine xi_callV [.int (nI p), .int (nI (mpos S n))] [] dX6_hiddenThings_32 zX6_spots mlX6_120 (so hr) rfl rfl rfl rfl rfl (Nat.le_of_ble_eq_true rfl) (Nat.le_of_ble_eq_true rfl) ⟨by decide, by decide⟩ ?_
        refine s_spot hW hG hr hS hw (p := p) (k := mpos S n) (by omega) (by omega) ?_
        show WP _ _ 35 _ [.int (xb (mspot G S p (mpos S n)))] _ _
        refine xb_if_ne (mspot G S p (mpos S n)) 41 dX6_hiddenThings_35 (by decide) rfl (fun h35 => ?_) (fun h35 => ?_)
        · skip
          refine xi_iinc (v := nI (n + 1)) (lv' := [some (.ref r), some (.int (nI p)), some (.int (nI a)), some (.int (nI (n + 1)))]) dX6_hiddenThings_41 rfl (xinc n) (by decide) rfl ?_
          refine xi_goto 4 dX6_hiddenThings_44 (by decide) ?_
          rw [mhidL, if_neg (fun q => by rw [h35] at q; cases q.2)] at h
          exact ih (n + 1) (a) (by omega) (by omega) h
        · skip
          refine xi_iinc (v := nI (a + 1)) (lv' := [some (.ref r), some (.int (nI p)), some (.int (nI (a + 1))), some (.int (nI n))]) dX6_hiddenThings_38 rfl (xinc a) (by decide) rfl ?_
          refine xi_iinc (v := nI (n + 1)) (lv' := [some (.ref r), some (.int (nI p)), some (.int (nI (a + 1))), some (.int (nI (n + 1)))]) dX6_hiddenThings_41 rfl (xinc n) (by decide) rfl ?_
          refine xi_goto 4 dX6_hiddenThings_44 (by decide) ?_
          rw [mhidL, if_pos ⟨h21, h35⟩] at h
          exact ih (n + 1) (a + 1) (by omega) (by omega) h

set_option maxHeartbeats 4000000 in
set_option maxRecDepth 100000 in
theorem s_hid {G : xG} {S : xS} {M : xM} {r : Nat} {Q : Option Value → xM → Prop} (hW : wG G) (hG : CG G M) (hr : isSt r) (hS : CS G S M r) (hw : wS G S) {p : Nat} (hp : p < gP G) (h : Q (some (.int (nI (mhid G S p)))) M) : WP shC mX6_hiddenThings 0 [some (.ref r), some (.int (nI p)), none, none] [] M Q := by
  obtain ⟨b1, b2, b3, b4, b5, b6, b7, b8, b9, wmap, wlink, wk0, wk1, b10, b11, wword⟩ := id hW
  refine xi_iconst (v := 0) dX6_hiddenThings_0 rfl ?_
  refine xi_istore_n (lv' := [some (.ref r), some (.int (nI p)), some (.int 0), none]) dX6_hiddenThings_1 (by decide) rfl ?_
  refine xi_iconst (v := 0) dX6_hiddenThings_2 rfl ?_
  refine xi_istore_n (lv' := [some (.ref r), some (.int (nI p)), some (.int 0), some (.int 0)]) dX6_hiddenThings_3 (by decide) rfl ?_
  exact l_hid hW hG hr hS hw hp (gT G) 0 0 (by omega) (by omega) h

set_option maxHeartbeats 4000000 in
set_option maxRecDepth 100000 in
theorem l_dark {G : xG} {S : xS} {M : xM} {r : Nat} {Q : Option Value → xM → Prop} (hW : wG G) (hG : CG G M) (hr : isSt r) (hS : CS G S M r) (hw : wS G S) {p : Nat} (hp : p < gP G) : ∀ (f c a : Nat), c + f = gN G → a ≤ c → Q (some (.int (nI (mdarkL G S p c f a)))) M → WP shC mX6_darkCells 4 [some (.ref r), some (.int (nI p)), some (.int (nI a)), some (.int (nI c))] [] M Q := by
  obtain ⟨b1, b2, b3, b4, b5, b6, b7, b8, b9, wmap, wlink, wk0, wk1, b10, b11, wword⟩ := id hW
  intro f
  induction f with
  | zero =>
    intro c a hf ha h
    refine xi_iload_n dX6_darkCells_4 rfl ?_
    refine xi_aload_n dX6_darkCells_5 rfl ?_
    refine xi_getR dX6_darkCells_6 fgX6_39 (so hr) rfl ?_
    refine xe_getI (v := nI (gN G)) dX6_darkCells_9 fgX6_129 cc1 rfl (cg_N hG) ?_
    refine xn_icmp_ge c (gN G) 46 dX6_darkCells_12 (by decide) rfl rfl (by omega) (by omega) (fun h12 => ?_) (fun h12 => ?_)
    · skip
      refine xi_iload_n dX6_darkCells_46 rfl ?_
      refine xi_iret (v := nI a) dX6_darkCells_47 rfl ?_
      exact h
    · omega
  | succ f ih =>
    intro c a hf ha h
    refine xi_iload_n dX6_darkCells_4 rfl ?_
    refine xi_aload_n dX6_darkCells_5 rfl ?_
    refine xi_getR dX6_darkCells_6 fgX6_39 (so hr) rfl ?_
    refine xe_getI (v := nI (gN G)) dX6_darkCells_9 fgX6_129 cc1 rfl (cg_N hG) ?_
    refine xn_icmp_ge c (gN G) 46 dX6_darkCells_12 (by decide) rfl rfl (by omega) (by omega) (fun h12 => ?_) (fun h12 => ?_)
    · omega
    · skip
      refine xi_aload_n dX6_darkCells_15 rfl ?_
      refine xi_getR dX6_darkCells_16 fgX6_39 (so hr) rfl ?_
      refine xi_getR dX6_darkCells_19 fgX6_78 cc1 rfl ?_
      refine xi_iload_n dX6_darkCells_22 rfl ?_
      have q1 := wmap c (by omega)
      refine xe_iald (v := nI (gmap G c)) c dX6_darkCells_23 cc2 (by decide) rfl (by omega) (cg_map hG (by omega)) ?_
      refine xi_iconst (v := 1) dX6_darkCells_24 rfl ?_
      refine xn_icmp_eq (gmap G c) 1 40 dX6_darkCells_25 (by decide) rfl rfl (by omega) (by omega) (fun h25 => ?_) (fun h25 => ?_)
      · skip
        refine xi_iinc (v := nI (c + 1)) (lv' := [some (.ref r), some (.int (nI p)), some (.int (nI a)), some (.int (nI (c + 1)))]) dX6_darkCells_40 rfl (xinc c) (by decide) rfl ?_
        refine xi_goto 4 dX6_darkCells_43 (by decide) ?_
        rw [mdarkL, if_neg (fun q => q.1 h25)] at h
        exact ih (c + 1) (a) (by omega) (by omega) h
      · skip
        refine xi_aload_n dX6_darkCells_28 rfl ?_
        refine xi_iload_n dX6_darkCells_29 rfl ?_
        refine xi_iload_n dX6_darkCells_30 rfl ?_
        refine xi_callV [.int (nI p), .int (nI c)] [] dX6_darkCells_31 zX6_spots mlX6_120 (so hr) rfl rfl rfl rfl rfl (Nat.le_of_ble_eq_true rfl) (Nat.le_of_ble_eq_true rfl) ⟨by decide, by decide⟩ ?_
        refine s_spot hW hG hr hS hw (p := p) (k := c) (by omega) (by omega) ?_
        show WP _ _ 34 _ [.int (xb (mspot G S p c))] _ _
        refine xb_if_ne (mspot G S p c) 40 dX6_darkCells_34 (by decide) rfl (fun h34 => ?_) (fun h34 => ?_)
        · skip
          refine xi_iinc (v := nI (c + 1)) (lv' := [some (.ref r), some (.int (nI p)), some (.int (nI a)), some (.int (nI (c + 1)))]) dX6_darkCells_40 rfl (xinc c) (by decide) rfl ?_
          refine xi_goto 4 dX6_darkCells_43 (by decide) ?_
          rw [mdarkL, if_neg (fun q => by rw [h34] at q; cases q.2)] at h
          exact ih (c + 1) (a) (by omega) (by omega) h
        · skip
          refine xi_iinc (v := nI (a + 1)) (lv' := [some (.ref r), some (.int (nI p)), some (.int (nI (a + 1))), some (.int (nI c))]) dX6_darkCells_37 rfl (xinc a) (by decide) rfl ?_
          refine xi_iinc (v := nI (c + 1)) (lv' := [some (.ref r), some (.int (nI p)), some (.int (nI (a + 1))), some (.int (nI (c + 1)))]) dX6_darkCells_40 rfl (xinc c) (by decide) rfl ?_
          refine xi_goto 4 dX6_darkCells_43 (by decide) ?_
          rw [mdarkL, if_pos ⟨h25, h34⟩] at h
          exact ih (c + 1) (a + 1) (by omega) (by omega) h

set_option maxHeartbeats 4000000 in
set_option maxRecDepth 100000 in
theorem s_dark {G : xG} {S : xS} {M : xM} {r : Nat} {Q : Option Value → xM → Prop} (hW : wG G) (hG : CG G M) (hr : isSt r) (hS : CS G S M r) (hw : wS G S) {p : Nat} (hp : p < gP G) (h : Q (some (.int (nI (mdark G S p)))) M) : WP shC mX6_darkCells 0 [some (.ref r), some (.int (nI p)), none, none] [] M Q := by
  obtain ⟨b1, b2, b3, b4, b5, b6, b7, b8, b9, wmap, wlink, wk0, wk1, b10, b11, wword⟩ := id hW
  refine xi_iconst (v := 0) dX6_darkCells_0 rfl ?_
  refine xi_istore_n (lv' := [some (.ref r), some (.int (nI p)), some (.int 0), none]) dX6_darkCells_1 (by decide) rfl ?_
  refine xi_iconst (v := 0) dX6_darkCells_2 rfl ?_
  refine xi_istore_n (lv' := [some (.ref r), some (.int (nI p)), some (.int 0), some (.int 0)]) dX6_darkCells_3 (by decide) rfl ?_
  exact l_dark hW hG hr hS hw hp (gN G) 0 0 (by omega) (by omega) h

set_option maxHeartbeats 4000000 in
set_option maxRecDepth 100000 in
theorem s_shotC {G : xG} {S : xS} {M : xM} {r : Nat} {Q : Option Value → xM → Prop} (hW : wG G) (hG : CG G M) (hr : isSt r) (hS : CS G S M r) (hw : wS G S) {p d : Nat} (hp : p < gP G) (hd : d < 4) (h : Q (some (.int (xo (mshotC G S p d)))) M) : WP shC mX6_shotChance 0 [some (.ref r), some (.int (nI p)), some (.int (nI d)), none, none] [] M Q := by
  obtain ⟨b1, b2, b3, b4, b5, b6, b7, b8, b9, wmap, wlink, wk0, wk1, b10, b11, wword⟩ := id hW
  have bU : munseen G S p d ≤ 0 + 7 := munL_le _ _ _
  have bD : mdark G S p ≤ 0 + gN G := mdarkL_le _ _ _
  have bH : mhid G S p ≤ 0 + gT G := mhidL_le _ _ _
  have bM : mhid G S p * munseen G S p d ≤ 16 * 7 := Nat.mul_le_mul (by omega) (by omega)
  refine xi_aload_n dX6_shotChance_0 rfl ?_
  refine xi_getR dX6_shotChance_1 fgX6_24 (so hr) rfl ?_
  refine xi_iload_n dX6_shotChance_4 rfl ?_
  have q1 := (hw).2.2.2.1 p (by omega)
  refine xe_iald (v := nI (sR S p)) p dX6_shotChance_5 (sa5 hr) (by decide) rfl (by omega) (csR hS (by omega)) ?_
  refine xn_if_ne (sR S p) 18 dX6_shotChance_6 (by decide) rfl (by omega) (fun h6 => ?_) (fun h6 => ?_)
  · skip
    refine xi_iconst (v := 0) dX6_shotChance_18 rfl ?_
    refine xi_istore_n (lv' := [some (.ref r), some (.int (nI p)), some (.int (nI d)), some (.int 0), none]) dX6_shotChance_19 (by decide) rfl ?_
    refine xi_iload_n dX6_shotChance_20 rfl ?_
    refine xn_if_le 0 32 dX6_shotChance_21 (by decide) rfl (by omega) (fun h21 => ?_) (fun h21 => ?_)
    · skip
      refine xi_iconst (v := 0) dX6_shotChance_32 rfl ?_
      refine xi_istore (lv' := [some (.ref r), some (.int (nI p)), some (.int (nI d)), some (.int 0), some (.int 0)]) dX6_shotChance_33 (by decide) rfl ?_
      refine xi_iload dX6_shotChance_35 rfl ?_
      refine xn_if_gt 0 42 dX6_shotChance_37 (by decide) rfl (by omega) (fun h37 => ?_) (fun h37 => ?_)
      · omega
      · skip
        refine xi_iconst (v := (-1)) dX6_shotChance_40 rfl ?_
        refine xi_iret (v := (-1)) dX6_shotChance_41 rfl ?_
        have e : mshotC G S p d = none := by unfold mshotC; rw [if_neg (by omega)]
        rw [e] at h
        exact h
    · omega
  · skip
    refine xi_aload_n dX6_shotChance_9 rfl ?_
    refine xi_iload_n dX6_shotChance_10 rfl ?_
    refine xi_iload_n dX6_shotChance_11 rfl ?_
    refine xi_callV [.int (nI p), .int (nI d)] [] dX6_shotChance_12 zX6_unseenInLine mlX6_152 (so hr) rfl rfl rfl rfl rfl (Nat.le_of_ble_eq_true rfl) (Nat.le_of_ble_eq_true rfl) ⟨by decide, by decide⟩ ?_
    refine s_uns hW hG hr hS hw (p := p) (d := d) (by omega) (by omega) ?_
    show WP _ _ 15 _ [.int (nI (munseen G S p d))] _ _
    refine xi_goto 19 dX6_shotChance_15 (by decide) ?_
    refine xi_istore_n (lv' := [some (.ref r), some (.int (nI p)), some (.int (nI d)), some (.int (nI (munseen G S p d))), none]) dX6_shotChance_19 (by decide) rfl ?_
    refine xi_iload_n dX6_shotChance_20 rfl ?_
    refine xn_if_le (munseen G S p d) 32 dX6_shotChance_21 (by decide) rfl (by omega) (fun h21 => ?_) (fun h21 => ?_)
    · skip
      refine xi_iconst (v := 0) dX6_shotChance_32 rfl ?_
      refine xi_istore (lv' := [some (.ref r), some (.int (nI p)), some (.int (nI d)), some (.int (nI (munseen G S p d))), some (.int 0)]) dX6_shotChance_33 (by decide) rfl ?_
      refine xi_iload dX6_shotChance_35 rfl ?_
      refine xn_if_gt 0 42 dX6_shotChance_37 (by decide) rfl (by omega) (fun h37 => ?_) (fun h37 => ?_)
      · omega
      · skip
        refine xi_iconst (v := (-1)) dX6_shotChance_40 rfl ?_
        refine xi_iret (v := (-1)) dX6_shotChance_41 rfl ?_
        have e : mshotC G S p d = none := by unfold mshotC; rw [if_neg (by omega)]
        rw [e] at h
        exact h
    · skip
      refine xi_aload_n dX6_shotChance_24 rfl ?_
      refine xi_iload_n dX6_shotChance_25 rfl ?_
      refine xi_callV [.int (nI p)] [] dX6_shotChance_26 zX6_darkCells mlX6_155 (so hr) rfl rfl rfl rfl rfl (Nat.le_of_ble_eq_true rfl) (Nat.le_of_ble_eq_true rfl) ⟨by decide, by decide⟩ ?_
      refine s_dark hW hG hr hS hw (p := p) (by omega) ?_
      show WP _ _ 29 _ [.int (nI (mdark G S p))] _ _
      refine xi_goto 33 dX6_shotChance_29 (by decide) ?_
      refine xi_istore (lv' := [some (.ref r), some (.int (nI p)), some (.int (nI d)), some (.int (nI (munseen G S p d))), some (.int (nI (mdark G S p)))]) dX6_shotChance_33 (by decide) rfl ?_
      refine xi_iload dX6_shotChance_35 rfl ?_
      refine xn_if_gt (mdark G S p) 42 dX6_shotChance_37 (by decide) rfl (by omega) (fun h37 => ?_) (fun h37 => ?_)
      · skip
        refine xi_ldc (v := 1048576) dX6_shotChance_42 kcX6_158 ?_
        refine xi_aload_n dX6_shotChance_44 rfl ?_
        refine xi_iload_n dX6_shotChance_45 rfl ?_
        refine xi_callV [.int (nI p)] [.int 1048576] dX6_shotChance_46 zX6_hiddenThings mlX6_159 (so hr) rfl rfl rfl rfl rfl (Nat.le_of_ble_eq_true rfl) (Nat.le_of_ble_eq_true rfl) ⟨by decide, by decide⟩ ?_
        refine s_hid hW hG hr hS hw (p := p) (by omega) ?_
        show WP _ _ 49 _ [.int (nI (mhid G S p)), .int 1048576] _ _
        refine xi_iload_n dX6_shotChance_49 rfl ?_
        refine xe_imul dX6_shotChance_50 (v := nI ((mhid G S p) * (munseen G S p d))) (pk_mul (mhid G S p) (munseen G S p d)) ?_
        refine xi_iload dX6_shotChance_51 rfl ?_
        refine xi_callS [.int (nI ((mhid G S p) * (munseen G S p d))), .int (nI (mdark G S p))] [.int 1048576] dX6_shotChance_53 zJ9_min_7cf53 mlX6_162 rfl rfl rfl (Nat.le_of_ble_eq_true rfl) (Nat.le_of_ble_eq_true rfl) ⟨by decide, by decide⟩ ?_
        refine k_min (a := (mhid G S p) * (munseen G S p d)) (b := mdark G S p) (by omega) (by omega) ?_
        show WP _ _ 56 _ [.int (nI (min ((mhid G S p) * (munseen G S p d)) (mdark G S p))), .int 1048576] _ _
        refine xe_imul dX6_shotChance_56 (v := nI (1048576 * (min ((mhid G S p) * (munseen G S p d)) (mdark G S p)))) (pk_mul 1048576 (min ((mhid G S p) * (munseen G S p d)) (mdark G S p))) ?_
        refine xi_iload dX6_shotChance_57 rfl ?_
        refine xe_idiv dX6_shotChance_59 (nI_ne0 (by omega) (by omega)) (v := nI (1048576 * min (mhid G S p * munseen G S p d) (mdark G S p) / mdark G S p)) (pk_div (by omega) (by omega) (by omega)) ?_
        refine xi_iret (v := nI (1048576 * min (mhid G S p * munseen G S p d) (mdark G S p) / mdark G S p)) dX6_shotChance_60 rfl ?_
        have e : mshotC G S p d = some (1048576 * min (mhid G S p * munseen G S p d) (mdark G S p) / mdark G S p) := by unfold mshotC; rw [if_pos (by omega)]
        rw [e] at h
        exact h
      · skip
        refine xi_iconst (v := (-1)) dX6_shotChance_40 rfl ?_
        refine xi_iret (v := (-1)) dX6_shotChance_41 rfl ?_
        have e : mshotC G S p d = none := by unfold mshotC; rw [if_neg (by omega)]
        rw [e] at h
        exact h

set_option maxHeartbeats 4000000 in
set_option maxRecDepth 100000 in
theorem s_wordC {G : xG} {S : xS} {M : xM} {r : Nat} {Q : Option Value → xM → Prop} (hW : wG G) (hG : CG G M) (hr : isSt r) (hS : CS G S M r) (hw : wS G S) {p d : Nat} (hp : p < gP G) (hd : d < 4) (h : Q (some (.int (xo (mwordC G S p d)))) M) : WP shC mX6_wordChance 0 [some (.ref r), some (.int (nI p)), some (.int (nI d)), none] [] M Q := by
  obtain ⟨b1, b2, b3, b4, b5, b6, b7, b8, b9, wmap, wlink, wk0, wk1, b10, b11, wword⟩ := id hW
  have hmp := mpos_P hW hw hp
  refine xi_aload_n dX6_wordChance_0 rfl ?_
  refine xi_getR dX6_wordChance_1 fgX6_39 (so hr) rfl ?_
  refine xi_aload_n dX6_wordChance_4 rfl ?_
  refine xi_getR dX6_wordChance_5 fgX6_9 (so hr) rfl ?_
  refine xi_iload_n dX6_wordChance_8 rfl ?_
  refine xe_iald (v := nI (mpos S p)) p dX6_wordChance_9 (sa1 hr) (by decide) rfl (by omega) ((csC hS (by omega)).trans hmp.1) ?_
  refine xi_iload_n dX6_wordChance_10 rfl ?_
  refine xi_callV [.int (nI (mpos S p)), .int (nI d)] [] dX6_wordChance_11 zX1_nextTo mlX6_146 cc1 rfl rfl rfl rfl rfl (Nat.le_of_ble_eq_true rfl) (Nat.le_of_ble_eq_true rfl) ⟨by decide, by decide⟩ ?_
  refine g_next hW hG (k := mpos S p) (d := d) (by omega) (by omega) ?_
  show WP _ _ 14 _ [.int (xo (mnext G (mpos S p) d))] _ _
  generalize eo11 : mnext G (mpos S p) d = o11
  refine xi_istore_n (lv' := [some (.ref r), some (.int (nI p)), some (.int (nI d)), some (.int (xo o11))]) dX6_wordChance_14 (by decide) rfl ?_
  refine xi_aload_n dX6_wordChance_15 rfl ?_
  refine xi_iload_n dX6_wordChance_16 rfl ?_
  refine xi_callV [.int (xo o11)] [] dX6_wordChance_17 zX6_isShutDoor mlX6_165 (so hr) rfl rfl rfl rfl rfl (Nat.le_of_ble_eq_true rfl) (Nat.le_of_ble_eq_true rfl) ⟨by decide, by decide⟩ ?_
  refine s_shut hW hG hr hS (o := o11) (fun j q => mnext_lt hW hmp.2 (eo11.trans q)) ?_
  show WP _ _ 20 _ [.int (xb (mshutO G S o11))] _ _
  refine xb_if_eq (mshutO G S o11) 49 dX6_wordChance_20 (by decide) rfl (fun h20 => ?_) (fun h20 => ?_)
  · skip
    refine xi_iconst (v := (-1)) dX6_wordChance_49 rfl ?_
    refine xi_iret (v := (-1)) dX6_wordChance_50 rfl ?_
    have e : mwordC G S p d = none := by
      unfold mwordC
      rw [eo11]
      cases o11 with
      | none => rfl
      | some k => exact if_neg (fun q => by rw [show mshut G S k = mshutO G S (some k) from rfl, h20] at q; cases q.1)
    rw [e] at h
    exact h
  · skip
    obtain ⟨k, rfl⟩ : ∃ k, o11 = some k := by
      cases o11 with
      | none => simp [mshutO] at h20
      | some k => exact ⟨k, rfl⟩
    show WP _ _ 23 [some (.ref r), some (.int (nI p)), some (.int (nI d)), some (.int (nI k))] [] _ _
    have hk := mnext_lt hW hmp.2 eo11
    have hm2 : gmap G k = 2 := by simp [mshutO, mshut] at h20; exact h20.1
    refine xi_aload_n dX6_wordChance_23 rfl ?_
    refine xi_getR dX6_wordChance_24 fgX6_33 (so hr) rfl ?_
    refine xi_iload_n dX6_wordChance_27 rfl ?_
    refine xe_iald (v := sK S p) p dX6_wordChance_28 (sa8 hr) (by decide) rfl (by omega) (csK hS (by omega)) ?_
    refine xi_aload_n dX6_wordChance_29 rfl ?_
    refine xi_getR dX6_wordChance_30 fgX6_39 (so hr) rfl ?_
    refine xi_getR dX6_wordChance_33 fgX6_81 cc1 rfl ?_
    refine xi_iload_n dX6_wordChance_36 rfl ?_
    have q2 := wlink k (by omega) (by omega)
    refine xe_iald (v := nI (glink G k)) k dX6_wordChance_37 cc3 (by decide) rfl (by omega) (cg_link hG (by omega) (by omega)) ?_
    refine xi_ishr dX6_wordChance_38 ?_
    refine xi_iconst (v := 1) dX6_wordChance_39 rfl ?_
    refine xat 40 rfl ?_
    refine xi_iand dX6_wordChance_40 ?_
    refine xi_if_ne 49 dX6_wordChance_41 (by decide) (fun h41 => ?_) (fun h41 => ?_)
    · skip
      refine xi_iconst (v := (-1)) dX6_wordChance_49 rfl ?_
      refine xi_iret (v := (-1)) dX6_wordChance_50 rfl ?_
      have e : mwordC G S p d = none := by rw [mwordC, eo11]; exact if_neg (fun q => h41 q.2)
      rw [e] at h
      exact h
    · skip
      refine xi_ldc (v := 65536) dX6_wordChance_44 kcX6_168 ?_
      refine xi_goto 50 dX6_wordChance_46 (by decide) ?_
      refine xi_iret (v := 65536) dX6_wordChance_50 rfl ?_
      have e : mwordC G S p d = some 65536 := by rw [mwordC, eo11]; exact if_pos ⟨h20, h41⟩
      rw [e] at h
      exact h

