def mspot (G : xG) (S : xS) (p k : Nat) : Bool := decide (0 < sL S p) && msee G S (mpos S p) k (if mcar G S p 6 = true then 6 else 4)
def mtl (G : xG) (S : xS) (k : Nat) : Nat → Nat → Nat → Nat
  | _, 0, a => a
  | n, f + 1, a => mtl G S k (n + 1) f (if ¬ gkind G n = 4 ∧ mat G S n k = true then a + 8 else a)
def mtell (G : xG) (S : xS) (p k : Nat) : Option Nat := if mspot G S p k = true then some (mtl G S k 0 (gT G) (mlook G S k)) else none
def mdist (G : xG) (S : xS) (n m : Nat) : Nat := (mdx G (mpos S n) (mpos S m)).natAbs + (mdy G (mpos S n) (mpos S m)).natAbs
def mnear (G : xG) (S : xS) (n : Nat) : Nat → Nat → Option Nat → Option Nat
  | _, 0, b => b
  | p, f + 1, b => mnear G S n (p + 1) f (if 0 < sL S p ∧ msee G S (mpos S n) (mpos S p) 4 = true ∧ (∀ q, b = some q → mdist G S n p < mdist G S n q) then some p else b)
def mprey (G : xG) (S : xS) (n : Nat) : Option Nat := mnear G S n 0 (gP G) none
def mside (G : xG) (S : xS) (n q : Nat) : Option Nat := if mdx G (mpos S n) (mpos S q) = 0 then none else mnext G (mpos S n) (if 0 < mdx G (mpos S n) (mpos S q) then 1 else 3)
def mupdn (G : xG) (S : xS) (n q : Nat) : Option Nat := if mdy G (mpos S n) (mpos S q) = 0 then none else mnext G (mpos S n) (if 0 < mdy G (mpos S n) (mpos S q) then 2 else 0)
def mtow (G : xG) (S : xS) (n q : Nat) : Option Nat := if (mdy G (mpos S n) (mpos S q)).natAbs ≤ (mdx G (mpos S n) (mpos S q)).natAbs then (if mfree G S (mside G S n q) = true then mside G S n q else mupdn G S n q) else (if mfree G S (mupdn G S n q) = true then mupdn G S n q else mside G S n q)
def mhuntL (G : xG) (n : Nat) : Nat → xS → xS
  | 0, S => S
  | f + 1, S => if 0 < sL S n then match mprey G S n with
      | none => mhuntL G n f S
      | some q => if mdist G S n q = 1 then mhurt G S q 1 else mhuntL G n f (menter G S n (mtow G S n q))
    else S
def mbeL (G : xG) : Nat → Nat → xS → xS
  | _, 0, S => S
  | n, f + 1, S => mbeL G (n + 1) f (mhuntL G n (if gkind G n = 2 then 2 else 1) S)
def mbeasts (G : xG) (S : xS) : xS := mbeL G (gP G) (gT G - gP G) S
def mplL (G : xG) : Nat → Nat → xS → xS
  | _, 0, S => S
  | p, f + 1, S => mplL G (p + 1) f (if 0 < sL S p ∧ gmap G (mpos S p) = 3 then uK S p (sK S p ||| ((1 : Int32) <<< (nI (glink G (mpos S p)) &&& 31))) else S)
def mplates (G : xG) (S : xS) : xS := mplL G 0 (gP G) S
def men1 (G : xG) (p : Nat) (S : xS) : xS := if mcar G S p 7 = true then uP S p (sP S p + 1) else S
def men2 (p : Nat) (S : xS) : xS := if 0 < sR S p then uR S p (sR S p - 1) else S
def menL (G : xG) : Nat → Nat → xS → xS
  | _, 0, S => S
  | p, f + 1, S => menL G (p + 1) f (men2 p (men1 G p S))
def mend (G : xG) (S : xS) : xS := mplates G (menL G 0 (gP G) S)
theorem xinc8 (n : Nat) : nI n + Int32.ofInt 8 = nI (n + 8) := nI_add n 8
theorem mlook_le {G : xG} {S : xS} {k : Nat} (hW : wG G) (hk : k < gN G) : mlook G S k ≤ 4 := by
  have := hW.2.2.2.2.2.2.2.2.2.1 k hk
  unfold mlook; split <;> omega
theorem mnear_lt {G : xG} {S : xS} {n : Nat} : ∀ (f p : Nat) (b : Option Nat) (N q : Nat), p + f ≤ N → (∀ q, b = some q → q < N) → mnear G S n p f b = some q → q < N
  | 0, p, b, N, q, hf, hb, h => hb q h
  | f + 1, p, b, N, q, hf, hb, h => by
    rw [mnear] at h
    refine mnear_lt f (p + 1) _ N q (by omega) (fun z hz => ?_) h
    split at hz
    · cases hz; omega
    · exact hb z hz
theorem mprey_lt {G : xG} {S : xS} {n q : Nat} (h : mprey G S n = some q) : q < gP G := mnear_lt _ _ _ _ q (by omega) (fun _ z => by cases z) h
theorem mtow_lt {G : xG} {S : xS} {n q j : Nat} (hW : wG G) (hn : mpos S n < gN G) (h : mtow G S n q = some j) : j < gN G := by
  have h1 : ∀ j, mside G S n q = some j → j < gN G := fun j z => by
    unfold mside at z
    split at z
    · cases z
    · exact mnext_lt hW hn z
  have h2 : ∀ j, mupdn G S n q = some j → j < gN G := fun j z => by
    unfold mupdn at z
    split at z
    · cases z
    · exact mnext_lt hW hn z
  unfold mtow at h
  split at h <;> split at h <;> first | exact h1 j h | exact h2 j h
theorem wS_huntL {G : xG} {n : Nat} (hW : wG G) (hn : n < gT G) (hk : ∀ S, wS G S → 0 < sL S n → gkind G n ≤ 2) : ∀ (f : Nat) (S : xS), wS G S → wS G (mhuntL G n f S)
  | 0, S, h => h
  | f + 1, S, h => by
    rw [mhuntL]
    split
    · rename_i q
      cases e : mprey G S n with
      | none => exact wS_huntL hW hn hk f S h
      | some z =>
        have hz := mprey_lt e
        have b7 : gP G ≤ gT G := hW.2.2.2.2.2.2.1
        dsimp only
        split
        · exact wS_hurt h (by omega)
        · exact wS_huntL hW hn hk f _ (wS_enter h hn (fun j w => mtow_lt hW (mpos_at hW h hn (hk S h q)).2 w))
    · exact h
theorem wS_hunt {G : xG} {n f : Nat} {S : xS} (hW : wG G) (h : wS G S) (hn : n < gT G) : wS G (mhuntL G n f S) := wS_huntL hW hn (fun S h q => h.2.2.1 n hn q) f S h
theorem wS_beL {G : xG} (hW : wG G) : ∀ (f n : Nat) (S : xS), n + f ≤ gT G → wS G S → wS G (mbeL G n f S)
  | 0, n, S, hf, h => h
  | f + 1, n, S, hf, h => wS_beL hW f (n + 1) _ (by omega) (wS_hunt hW h (by omega))
theorem wS_beasts {G : xG} {S : xS} (hW : wG G) (h : wS G S) : wS G (mbeasts G S) := wS_beL hW _ _ _ (by have := hW.2.2.2.2.2.2.1; omega) h
theorem wS_plL {G : xG} : ∀ (f p : Nat) (S : xS), wS G S → wS G (mplL G p f S)
  | 0, p, S, h => h
  | f + 1, p, S, h => by
    rw [mplL]
    refine wS_plL f (p + 1) _ ?_
    split <;> exact h
theorem wS_plates {G : xG} {S : xS} (h : wS G S) : wS G (mplates G S) := wS_plL _ _ _ h
theorem wS_en1 {G : xG} {S : xS} {p : Nat} (h : wS G S) : wS G (men1 G p S) := by unfold men1; split <;> exact h
theorem wS_en2 {G : xG} {S : xS} {p : Nat} (h : wS G S) (hp : p < gP G) : wS G (men2 p S) := by
  unfold men2; split
  · exact wS_uR h (by have := h.2.2.2.1 p hp; omega)
  · exact h
theorem wS_enL {G : xG} : ∀ (f p : Nat) (S : xS), p + f ≤ gP G → wS G S → wS G (menL G p f S)
  | 0, p, S, hf, h => h
  | f + 1, p, S, hf, h => wS_enL f (p + 1) _ (by omega) (wS_en2 (wS_en1 h) (by omega))
theorem wS_end {G : xG} {S : xS} (h : wS G S) : wS G (mend G S) := wS_plates (wS_enL _ _ _ (by omega) h)
set_option maxHeartbeats 4000000 in
set_option maxRecDepth 100000 in
theorem s_spot {G : xG} {S : xS} {M : xM} {r : Nat} {Q : Option Value → xM → Prop} (hW : wG G) (hG : CG G M) (hr : isSt r) (hS : CS G S M r) (hw : wS G S) {p k : Nat} (hp : p < gP G) (hk : k < gN G) (h : Q (some (.int (xb (mspot G S p k)))) M) : WP shC mX6_spots 0 [some (.ref r), some (.int (nI p)), some (.int (nI k))] [] M Q := by
  obtain ⟨b1, b2, b3, b4, b5, b6, b7, b8, b9, wmap, wlink, wk0, wk1, b10, b11, wword⟩ := id hW
  have hmp := mpos_P hW hw hp
  refine xi_aload_n dX6_spots_0 rfl ?_
  refine xi_getR dX6_spots_1 fgX6_15 (so hr) rfl ?_
  refine xi_iload_n dX6_spots_4 rfl ?_
  have q1 := (hw).2.1 p (by omega)
  refine xe_iald (v := nI (sL S p)) p dX6_spots_5 (sa2 hr) (by decide) rfl (by omega) (csL hS (by omega)) ?_
  refine xn_if_le (sL S p) 43 dX6_spots_6 (by decide) rfl (by omega) (fun h6 => ?_) (fun h6 => ?_)
  · skip
    refine xi_iconst (v := 0) dX6_spots_43 rfl ?_
    refine xi_zret (v := 0) dX6_spots_44 rfl (by decide) ?_
    simpa [xb, mspot, h6] using h
  · skip
    refine xi_aload_n dX6_spots_9 rfl ?_
    refine xi_aload_n dX6_spots_10 rfl ?_
    refine xi_getR dX6_spots_11 fgX6_9 (so hr) rfl ?_
    refine xi_iload_n dX6_spots_14 rfl ?_
    refine xe_iald (v := nI (mpos S p)) p dX6_spots_15 (sa1 hr) (by decide) rfl (by omega) ((csC hS (by omega)).trans hmp.1) ?_
    refine xi_iload_n dX6_spots_16 rfl ?_
    refine xi_aload_n dX6_spots_17 rfl ?_
    refine xi_iload_n dX6_spots_18 rfl ?_
    refine xi_bipush (v := 6) dX6_spots_19 (by decide) ?_
    refine xi_callV [.int (nI p), .int 6] [.int (nI k), .int (nI (mpos S p)), .ref r] dX6_spots_21 zX6_carries mlX6_112 (so hr) rfl rfl rfl rfl rfl (Nat.le_of_ble_eq_true rfl) (Nat.le_of_ble_eq_true rfl) ⟨by decide, by decide⟩ ?_
    refine s_car hW hG hr hS hw (p := p) (q := 6) (by omega) (by omega) ?_
    show WP _ _ 24 _ [.int (xb (mcar G S p 6)), .int (nI k), .int (nI (mpos S p)), .ref r] _ _
    refine xb_if_eq (mcar G S p 6) 32 dX6_spots_24 (by decide) rfl (fun h24 => ?_) (fun h24 => ?_)
    · skip
      refine xi_iconst (v := 4) dX6_spots_32 rfl ?_
      refine xi_callV [.int (nI (mpos S p)), .int (nI k), .int 4] [] dX6_spots_33 zX6_reaches mlX6_116 (so hr) rfl rfl rfl rfl rfl (Nat.le_of_ble_eq_true rfl) (Nat.le_of_ble_eq_true rfl) ⟨by decide, by decide⟩ ?_
      refine s_reach hW hG hr hS (a := mpos S p) (b := k) (R := 4) (by omega) (by omega) (by omega) ?_
      show WP _ _ 36 _ [.int (xb (msee G S (mpos S p) k 4))] _ _
      refine xb_if_eq (msee G S (mpos S p) k 4) 43 dX6_spots_36 (by decide) rfl (fun h36 => ?_) (fun h36 => ?_)
      · skip
        refine xi_iconst (v := 0) dX6_spots_43 rfl ?_
        refine xi_zret (v := 0) dX6_spots_44 rfl (by decide) ?_
        simpa [xb, mspot, h6, h24, h36] using h
      · skip
        refine xi_iconst (v := 1) dX6_spots_39 rfl ?_
        refine xi_goto 44 dX6_spots_40 (by decide) ?_
        refine xi_zret (v := 1) dX6_spots_44 rfl (by decide) ?_
        simpa [xb, mspot, h6, h24, h36] using h
    · skip
      refine xi_bipush (v := 6) dX6_spots_27 (by decide) ?_
      refine xi_goto 33 dX6_spots_29 (by decide) ?_
      refine xi_callV [.int (nI (mpos S p)), .int (nI k), .int 6] [] dX6_spots_33 zX6_reaches mlX6_116 (so hr) rfl rfl rfl rfl rfl (Nat.le_of_ble_eq_true rfl) (Nat.le_of_ble_eq_true rfl) ⟨by decide, by decide⟩ ?_
      refine s_reach hW hG hr hS (a := mpos S p) (b := k) (R := 6) (by omega) (by omega) (by omega) ?_
      show WP _ _ 36 _ [.int (xb (msee G S (mpos S p) k 6))] _ _
      refine xb_if_eq (msee G S (mpos S p) k 6) 43 dX6_spots_36 (by decide) rfl (fun h36 => ?_) (fun h36 => ?_)
      · skip
        refine xi_iconst (v := 0) dX6_spots_43 rfl ?_
        refine xi_zret (v := 0) dX6_spots_44 rfl (by decide) ?_
        simpa [xb, mspot, h6, h24, h36] using h
      · skip
        refine xi_iconst (v := 1) dX6_spots_39 rfl ?_
        refine xi_goto 44 dX6_spots_40 (by decide) ?_
        refine xi_zret (v := 1) dX6_spots_44 rfl (by decide) ?_
        simpa [xb, mspot, h6, h24, h36] using h

set_option maxHeartbeats 4000000 in
set_option maxRecDepth 100000 in
theorem l_tell {G : xG} {S : xS} {M : xM} {r : Nat} {Q : Option Value → xM → Prop} (hW : wG G) (hG : CG G M) (hr : isSt r) (hS : CS G S M r) (hw : wS G S) {p k : Nat} (hk : k < gN G) : ∀ (f n a : Nat), n + f = gT G → a ≤ 4 + 8 * n → Q (some (.int (nI (mtl G S k n f a)))) M → WP shC mX6_tellOf 20 [some (.ref r), some (.int (nI p)), some (.int (nI k)), some (.int (nI a)), some (.int (nI n))] [] M Q := by
  obtain ⟨b1, b2, b3, b4, b5, b6, b7, b8, b9, wmap, wlink, wk0, wk1, b10, b11, wword⟩ := id hW
  intro f
  induction f with
  | zero =>
    intro n a hf ha h
    refine xi_iload dX6_tellOf_20 rfl ?_
    refine xi_aload_n dX6_tellOf_22 rfl ?_
    refine xi_getR dX6_tellOf_23 fgX6_39 (so hr) rfl ?_
    refine xe_getI (v := nI (gT G)) dX6_tellOf_26 fgX6_75 cc1 rfl (cg_T hG) ?_
    refine xn_icmp_ge n (gT G) 65 dX6_tellOf_29 (by decide) rfl rfl (by omega) (by omega) (fun h29 => ?_) (fun h29 => ?_)
    · skip
      refine xi_iload_n dX6_tellOf_65 rfl ?_
      refine xi_iret (v := nI a) dX6_tellOf_66 rfl ?_
      exact h
    · omega
  | succ f ih =>
    intro n a hf ha h
    refine xi_iload dX6_tellOf_20 rfl ?_
    refine xi_aload_n dX6_tellOf_22 rfl ?_
    refine xi_getR dX6_tellOf_23 fgX6_39 (so hr) rfl ?_
    refine xe_getI (v := nI (gT G)) dX6_tellOf_26 fgX6_75 cc1 rfl (cg_T hG) ?_
    refine xn_icmp_ge n (gT G) 65 dX6_tellOf_29 (by decide) rfl rfl (by omega) (by omega) (fun h29 => ?_) (fun h29 => ?_)
    · omega
    · skip
      refine xi_aload_n dX6_tellOf_32 rfl ?_
      refine xi_getR dX6_tellOf_33 fgX6_39 (so hr) rfl ?_
      refine xi_getR dX6_tellOf_36 fgX6_72 cc1 rfl ?_
      refine xi_iload dX6_tellOf_39 rfl ?_
      have q1 : gkind G n ≤ 7 := hW.kind (by omega)
      refine xe_iald (v := nI (gkind G n)) n dX6_tellOf_41 cc8 (by decide) rfl (by omega) (cg_kind hG (by omega)) ?_
      refine xi_iconst (v := 4) dX6_tellOf_42 rfl ?_
      refine xn_icmp_eq (gkind G n) 4 59 dX6_tellOf_43 (by decide) rfl rfl (by omega) (by omega) (fun h43 => ?_) (fun h43 => ?_)
      · skip
        refine xi_iinc (v := nI (n + 1)) (lv' := [some (.ref r), some (.int (nI p)), some (.int (nI k)), some (.int (nI a)), some (.int (nI (n + 1)))]) dX6_tellOf_59 rfl (xinc n) (by decide) rfl ?_
        refine xi_goto 20 dX6_tellOf_62 (by decide) ?_
        rw [mtl, if_neg (fun q => q.1 h43)] at h
        exact ih (n + 1) a (by omega) (by omega) h
      · skip
        refine xi_aload_n dX6_tellOf_46 rfl ?_
        refine xi_iload dX6_tellOf_47 rfl ?_
        refine xi_iload_n dX6_tellOf_49 rfl ?_
        refine xi_callV [.int (nI n), .int (nI k)] [] dX6_tellOf_50 zX6_standsOrLiesIn mlX6_126 (so hr) rfl rfl rfl rfl rfl (Nat.le_of_ble_eq_true rfl) (Nat.le_of_ble_eq_true rfl) ⟨by decide, by decide⟩ ?_
        refine s_at hW hG hr hS hw (n := n) (k := k) (by omega) ?_
        show WP _ _ 53 _ [.int (xb (mat G S n k))] _ _
        refine xb_if_eq (mat G S n k) 59 dX6_tellOf_53 (by decide) rfl (fun h53 => ?_) (fun h53 => ?_)
        · skip
          refine xi_iinc (v := nI (n + 1)) (lv' := [some (.ref r), some (.int (nI p)), some (.int (nI k)), some (.int (nI a)), some (.int (nI (n + 1)))]) dX6_tellOf_59 rfl (xinc n) (by decide) rfl ?_
          refine xi_goto 20 dX6_tellOf_62 (by decide) ?_
          rw [mtl, if_neg (fun q => by rw [h53] at q; cases q.2)] at h
          exact ih (n + 1) a (by omega) (by omega) h
        · skip
          refine xi_iinc (v := nI (a + 8)) (lv' := [some (.ref r), some (.int (nI p)), some (.int (nI k)), some (.int (nI (a + 8))), some (.int (nI n))]) dX6_tellOf_56 rfl (xinc8 a) (by decide) rfl ?_
          refine xi_iinc (v := nI (n + 1)) (lv' := [some (.ref r), some (.int (nI p)), some (.int (nI k)), some (.int (nI (a + 8))), some (.int (nI (n + 1)))]) dX6_tellOf_59 rfl (xinc n) (by decide) rfl ?_
          refine xi_goto 20 dX6_tellOf_62 (by decide) ?_
          rw [mtl, if_pos ⟨h43, h53⟩] at h
          exact ih (n + 1) (a + 8) (by omega) (by omega) h

set_option maxHeartbeats 4000000 in
set_option maxRecDepth 100000 in
theorem s_tell {G : xG} {S : xS} {M : xM} {r : Nat} {Q : Option Value → xM → Prop} (hW : wG G) (hG : CG G M) (hr : isSt r) (hS : CS G S M r) (hw : wS G S) {p k : Nat} (hp : p < gP G) (hk : k < gN G) (h : Q (some (.int (xo (mtell G S p k)))) M) : WP shC mX6_tellOf 0 [some (.ref r), some (.int (nI p)), some (.int (nI k)), none, none] [] M Q := by
  obtain ⟨b1, b2, b3, b4, b5, b6, b7, b8, b9, wmap, wlink, wk0, wk1, b10, b11, wword⟩ := id hW
  refine xi_aload_n dX6_tellOf_0 rfl ?_
  refine xi_iload_n dX6_tellOf_1 rfl ?_
  refine xi_iload_n dX6_tellOf_2 rfl ?_
  refine xi_callV [.int (nI p), .int (nI k)] [] dX6_tellOf_3 zX6_spots mlX6_120 (so hr) rfl rfl rfl rfl rfl (Nat.le_of_ble_eq_true rfl) (Nat.le_of_ble_eq_true rfl) ⟨by decide, by decide⟩ ?_
  refine s_spot hW hG hr hS hw (p := p) (k := k) (by omega) (by omega) ?_
  show WP _ _ 6 _ [.int (xb (mspot G S p k))] _ _
  refine xb_if_ne (mspot G S p k) 11 dX6_tellOf_6 (by decide) rfl (fun h6 => ?_) (fun h6 => ?_)
  · skip
    refine xi_aload_n dX6_tellOf_11 rfl ?_
    refine xi_iload_n dX6_tellOf_12 rfl ?_
    refine xi_callV [.int (nI k)] [] dX6_tellOf_13 zX6_looksOf mlX6_123 (so hr) rfl rfl rfl rfl rfl (Nat.le_of_ble_eq_true rfl) (Nat.le_of_ble_eq_true rfl) ⟨by decide, by decide⟩ ?_
    refine s_look hW hG hr hS (k := k) (by omega) ?_
    show WP _ _ 16 _ [.int (nI (mlook G S k))] _ _
    refine xi_istore_n (lv' := [some (.ref r), some (.int (nI p)), some (.int (nI k)), some (.int (nI (mlook G S k))), none]) dX6_tellOf_16 (by decide) rfl ?_
    refine xi_iconst (v := 0) dX6_tellOf_17 rfl ?_
    refine xi_istore (lv' := [some (.ref r), some (.int (nI p)), some (.int (nI k)), some (.int (nI (mlook G S k))), some (.int 0)]) dX6_tellOf_18 (by decide) rfl ?_
    rw [mtell, if_pos h6] at h
    exact l_tell hW hG hr hS hw hk (gT G) 0 _ (by omega) (by have := mlook_le (S := S) hW hk; omega) h
  · skip
    refine xi_iconst (v := (-1)) dX6_tellOf_9 rfl ?_
    refine xi_iret (v := (-1)) dX6_tellOf_10 rfl ?_
    rw [mtell, if_neg (by simp [h6])] at h
    exact h

set_option maxHeartbeats 4000000 in
set_option maxRecDepth 100000 in
theorem s_cols {G : xG} {S : xS} {M : xM} {r : Nat} {Q : Option Value → xM → Prop} (hW : wG G) (hG : CG G M) (hr : isSt r) (hS : CS G S M r) (hw : wS G S) {n m : Nat} (hn : n < gT G) (hm : m < gT G) (hkn : gkind G n ≤ 2) (hkm : gkind G m ≤ 2) (h : Q (some (.int (xz (mdx G (mpos S n) (mpos S m))))) M) : WP shC mX6_columnsBetween 0 [some (.ref r), some (.int (nI n)), some (.int (nI m))] [] M Q := by
  obtain ⟨b1, b2, b3, b4, b5, b6, b7, b8, b9, wmap, wlink, wk0, wk1, b10, b11, wword⟩ := id hW
  have hpn := mpos_at hW hw hn hkn
  have hpm := mpos_at hW hw hm hkm
  refine xi_aload_n dX6_columnsBetween_0 rfl ?_
  refine xi_getR dX6_columnsBetween_1 fgX6_39 (so hr) rfl ?_
  refine xi_getR dX6_columnsBetween_4 fgX6_91 cc1 rfl ?_
  refine xi_aload_n dX6_columnsBetween_7 rfl ?_
  refine xi_getR dX6_columnsBetween_8 fgX6_9 (so hr) rfl ?_
  refine xi_iload_n dX6_columnsBetween_11 rfl ?_
  refine xe_iald (v := nI (mpos S m)) m dX6_columnsBetween_12 (sa1 hr) (by decide) rfl (by omega) ((csC hS (by omega)).trans hpm.1) ?_
  have q1 : (mpos S m) % gw G < gw G := Nat.mod_lt _ (by omega)
  refine xe_iald (v := nI ((mpos S m) % gw G)) (mpos S m) dX6_columnsBetween_13 cc4 (by decide) rfl (by omega) (cg_col hG (by omega)) ?_
  refine xi_aload_n dX6_columnsBetween_14 rfl ?_
  refine xi_getR dX6_columnsBetween_15 fgX6_39 (so hr) rfl ?_
  refine xi_getR dX6_columnsBetween_18 fgX6_91 cc1 rfl ?_
  refine xat 21 rfl ?_
  refine xi_aload_n dX6_columnsBetween_21 rfl ?_
  refine xi_getR dX6_columnsBetween_22 fgX6_9 (so hr) rfl ?_
  refine xi_iload_n dX6_columnsBetween_25 rfl ?_
  refine xe_iald (v := nI (mpos S n)) n dX6_columnsBetween_26 (sa1 hr) (by decide) rfl (by omega) ((csC hS (by omega)).trans hpn.1) ?_
  have q2 : (mpos S n) % gw G < gw G := Nat.mod_lt _ (by omega)
  refine xe_iald (v := nI ((mpos S n) % gw G)) (mpos S n) dX6_columnsBetween_27 cc4 (by decide) rfl (by omega) (cg_col hG (by omega)) ?_
  refine xe_isub dX6_columnsBetween_28 (v := xz (mdx G (mpos S n) (mpos S m))) (xz_nsub _ _) ?_
  refine xi_iret (v := xz (mdx G (mpos S n) (mpos S m))) dX6_columnsBetween_29 rfl ?_
  exact h

set_option maxHeartbeats 4000000 in
set_option maxRecDepth 100000 in
theorem s_rows {G : xG} {S : xS} {M : xM} {r : Nat} {Q : Option Value → xM → Prop} (hW : wG G) (hG : CG G M) (hr : isSt r) (hS : CS G S M r) (hw : wS G S) {n m : Nat} (hn : n < gT G) (hm : m < gT G) (hkn : gkind G n ≤ 2) (hkm : gkind G m ≤ 2) (h : Q (some (.int (xz (mdy G (mpos S n) (mpos S m))))) M) : WP shC mX6_rowsBetween 0 [some (.ref r), some (.int (nI n)), some (.int (nI m))] [] M Q := by
  obtain ⟨b1, b2, b3, b4, b5, b6, b7, b8, b9, wmap, wlink, wk0, wk1, b10, b11, wword⟩ := id hW
  have hpn := mpos_at hW hw hn hkn
  have hpm := mpos_at hW hw hm hkm
  refine xi_aload_n dX6_rowsBetween_0 rfl ?_
  refine xi_getR dX6_rowsBetween_1 fgX6_39 (so hr) rfl ?_
  refine xi_getR dX6_rowsBetween_4 fgX6_94 cc1 rfl ?_
  refine xi_aload_n dX6_rowsBetween_7 rfl ?_
  refine xi_getR dX6_rowsBetween_8 fgX6_9 (so hr) rfl ?_
  refine xi_iload_n dX6_rowsBetween_11 rfl ?_
  refine xe_iald (v := nI (mpos S m)) m dX6_rowsBetween_12 (sa1 hr) (by decide) rfl (by omega) ((csC hS (by omega)).trans hpm.1) ?_
  have q1 : (mpos S m) / gw G ≤ (mpos S m) := Nat.div_le_self _ _
  refine xe_iald (v := nI ((mpos S m) / gw G)) (mpos S m) dX6_rowsBetween_13 cc5 (by decide) rfl (by omega) (cg_row hG (by omega)) ?_
  refine xi_aload_n dX6_rowsBetween_14 rfl ?_
  refine xi_getR dX6_rowsBetween_15 fgX6_39 (so hr) rfl ?_
  refine xi_getR dX6_rowsBetween_18 fgX6_94 cc1 rfl ?_
  refine xat 21 rfl ?_
  refine xi_aload_n dX6_rowsBetween_21 rfl ?_
  refine xi_getR dX6_rowsBetween_22 fgX6_9 (so hr) rfl ?_
  refine xi_iload_n dX6_rowsBetween_25 rfl ?_
  refine xe_iald (v := nI (mpos S n)) n dX6_rowsBetween_26 (sa1 hr) (by decide) rfl (by omega) ((csC hS (by omega)).trans hpn.1) ?_
  have q2 : (mpos S n) / gw G ≤ (mpos S n) := Nat.div_le_self _ _
  refine xe_iald (v := nI ((mpos S n) / gw G)) (mpos S n) dX6_rowsBetween_27 cc5 (by decide) rfl (by omega) (cg_row hG (by omega)) ?_
  refine xe_isub dX6_rowsBetween_28 (v := xz (mdy G (mpos S n) (mpos S m))) (xz_nsub _ _) ?_
  refine xi_iret (v := xz (mdy G (mpos S n) (mpos S m))) dX6_rowsBetween_29 rfl ?_
  exact h

set_option maxHeartbeats 4000000 in
set_option maxRecDepth 100000 in
theorem s_dist {G : xG} {S : xS} {M : xM} {r : Nat} {Q : Option Value → xM → Prop} (hW : wG G) (hG : CG G M) (hr : isSt r) (hS : CS G S M r) (hw : wS G S) {n m : Nat} (hn : n < gT G) (hm : m < gT G) (hkn : gkind G n ≤ 2) (hkm : gkind G m ≤ 2) (h : Q (some (.int (nI (mdist G S n m)))) M) : WP shC mX6_distance 0 [some (.ref r), some (.int (nI n)), some (.int (nI m))] [] M Q := by
  obtain ⟨b1, b2, b3, b4, b5, b6, b7, b8, b9, wmap, wlink, wk0, wk1, b10, b11, wword⟩ := id hW
  have hpn := mpos_at hW hw hn hkn
  have hpm := mpos_at hW hw hm hkm
  refine xi_aload_n dX6_distance_0 rfl ?_
  refine xi_iload_n dX6_distance_1 rfl ?_
  refine xi_iload_n dX6_distance_2 rfl ?_
  refine xi_callV [.int (nI n), .int (nI m)] [] dX6_distance_3 zX6_columnsBetween mlX6_221 (so hr) rfl rfl rfl rfl rfl (Nat.le_of_ble_eq_true rfl) (Nat.le_of_ble_eq_true rfl) ⟨by decide, by decide⟩ ?_
  refine s_cols hW hG hr hS hw (n := n) (m := m) (by omega) (by omega) (by omega) (by omega) ?_
  show WP _ _ 6 _ [.int (xz (mdx G (mpos S n) (mpos S m)))] _ _
  refine xi_callS [.int (xz (mdx G (mpos S n) (mpos S m)))] [] dX6_distance_6 zJ9_abs_0f7a4 mlX6_97 rfl rfl rfl (Nat.le_of_ble_eq_true rfl) (Nat.le_of_ble_eq_true rfl) ⟨by decide, by decide⟩ ?_
  refine k_abs (z := (mdx G (mpos S n) (mpos S m))) (by have := mdx_bd hW (mpos S n) (mpos S m); omega) (by have := mdx_bd hW (mpos S n) (mpos S m); omega) ?_
  show WP _ _ 9 _ [.int (nI ((mdx G (mpos S n) (mpos S m)).natAbs))] _ _
  refine xi_aload_n dX6_distance_9 rfl ?_
  refine xi_iload_n dX6_distance_10 rfl ?_
  refine xi_iload_n dX6_distance_11 rfl ?_
  refine xi_callV [.int (nI n), .int (nI m)] [.int (nI ((mdx G (mpos S n) (mpos S m)).natAbs))] dX6_distance_12 zX6_rowsBetween mlX6_224 (so hr) rfl rfl rfl rfl rfl (Nat.le_of_ble_eq_true rfl) (Nat.le_of_ble_eq_true rfl) ⟨by decide, by decide⟩ ?_
  refine s_rows hW hG hr hS hw (n := n) (m := m) (by omega) (by omega) (by omega) (by omega) ?_
  show WP _ _ 15 _ [.int (xz (mdy G (mpos S n) (mpos S m))), .int (nI ((mdx G (mpos S n) (mpos S m)).natAbs))] _ _
  refine xi_callS [.int (xz (mdy G (mpos S n) (mpos S m)))] [.int (nI ((mdx G (mpos S n) (mpos S m)).natAbs))] dX6_distance_15 zJ9_abs_0f7a4 mlX6_97 rfl rfl rfl (Nat.le_of_ble_eq_true rfl) (Nat.le_of_ble_eq_true rfl) ⟨by decide, by decide⟩ ?_
  refine k_abs (z := (mdy G (mpos S n) (mpos S m))) (by have := mdy_bd hW hpn.2 hpm.2; omega) (by have := mdy_bd hW hpn.2 hpm.2; omega) ?_
  show WP _ _ 18 _ [.int (nI ((mdy G (mpos S n) (mpos S m)).natAbs)), .int (nI ((mdx G (mpos S n) (mpos S m)).natAbs))] _ _
  refine xe_iadd dX6_distance_18 (v := nI (mdist G S n m)) (nI_add _ _) ?_
  refine xi_iret (v := nI (mdist G S n m)) dX6_distance_19 rfl ?_
  exact h

