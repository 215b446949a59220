theorem wG.kind {G : xG} (h : wG G) {n : Nat} (hn : n < gT G) : gkind G n ≤ 7 := by
  obtain ⟨b1, b2, b3, b4, b5, b6, b7, b8, b9, wmap, wlink, wk0, wk1, b10, b11, wword⟩ := h
  by_cases q : n < gP G
  · have := wk0 n q; omega
  · exact (wk1 n (by omega) hn).2
theorem wG.item {G : xG} (h : wG G) {n : Nat} (hk : 1 ≤ gkind G n) (hn : n < gT G) : gP G ≤ n := by
  obtain ⟨b1, b2, b3, b4, b5, b6, b7, b8, b9, wmap, wlink, wk0, wk1, b10, b11, wword⟩ := h
  by_cases q : n < gP G
  · have := wk0 n q; omega
  · omega
section WS
variable {G : xG} {S : xS} {n : Nat}
theorem wS_uC_pos {k : Nat} (h : wS G S) (hk : k < gN G) : wS G (uC S n (nI k)) := by
  refine ⟨fun m hm hq => ?_, h.2.1, h.2.2.1, h.2.2.2.1, h.2.2.2.2⟩
  rw [sC_uC]
  by_cases e : m = n
  · subst e; exact ⟨k, hk, up_s⟩
  · rw [up_n e]; exact h.1 m hm hq
theorem wS_uC_it {c : Int32} (h : wS G S) (hn : 2 < gkind G n) : wS G (uC S n c) := by
  refine ⟨fun m hm hq => ?_, h.2.1, h.2.2.1, h.2.2.2.1, h.2.2.2.2⟩
  rw [sC_uC]
  by_cases e : m = n
  · subst e; omega
  · rw [up_n e]; exact h.1 m hm hq
theorem wS_uL {v : Nat} (h : wS G S) (hv : v ≤ 5) (hk : 0 < v → gkind G n ≤ 2) : wS G (uL S n v) := by
  refine ⟨h.1, fun m hm => ?_, fun m hm hq => ?_, h.2.2.2.1, h.2.2.2.2⟩
  · rw [sL_uL]
    by_cases e : m = n
    · subst e; rw [up_s]; exact hv
    · rw [up_n e]; exact h.2.1 m hm
  · rw [sL_uL] at hq
    by_cases e : m = n
    · subst e; rw [up_s] at hq; exact hk hq
    · rw [up_n e] at hq; exact h.2.2.1 m hm hq
theorem wS_uB {v : Option Nat} (h : wS G S) : wS G (uB S n v) := h
theorem wS_uF {v : Int32} (h : wS G S) : wS G (uF S n v) := h
theorem wS_uP {v : Int32} (h : wS G S) : wS G (uP S n v) := h
theorem wS_uK {v : Int32} (h : wS G S) : wS G (uK S n v) := h
theorem wS_uO {v : Int32} (h : wS G S) : wS G (uO S n v) := h
theorem wS_uR {v : Nat} (h : wS G S) (hv : v ≤ 3) : wS G (uR S n v) := by
  refine ⟨h.1, h.2.1, h.2.2.1, fun p hp => ?_, h.2.2.2.2⟩
  rw [sR_uR]
  by_cases e : p = n
  · subst e; rw [up_s]; exact hv
  · rw [up_n e]; exact h.2.2.2.1 p hp
theorem wS_uH {v : Option Nat} (h : wS G S) (hv : ∀ j, v = some j → j < gT G ∧ 5 ≤ gkind G j) : wS G (uH S n v) := by
  refine ⟨h.1, h.2.1, h.2.2.1, h.2.2.2.1, fun p hp j hj => ?_⟩
  rw [sH_uH] at hj
  by_cases e : p = n
  · subst e; rw [up_s] at hj; exact hv j hj
  · rw [up_n e] at hj; exact h.2.2.2.2 p hp j hj
theorem wS_let {p : Nat} {c : Int32} (h : wS G S) (hp : p < gP G) : wS G (mlet S p c) := by
  unfold mlet
  split
  · exact h
  · rename_i j hj
    have := h.2.2.2.2 p hp j hj
    exact wS_uC_it (wS_uB (wS_uH h (fun _ q => by cases q))) (by omega)
theorem wS_hurt {loss : Nat} (h : wS G S) (hn : n < gT G) : wS G (mhurt G S n loss) := by
  have h1 : wS G (uL S n (sL S n - loss)) := wS_uL h (by have := h.2.1 n hn; omega) (fun q => h.2.2.1 n hn (by omega))
  unfold mhurt
  split
  · rename_i q; exact wS_let h1 q.2
  · exact h1
end WS
theorem sL_let {S : xS} {p : Nat} {c : Int32} : sL (mlet S p c) = sL S := by unfold mlet; split <;> rfl
theorem sL_hurt {G : xG} {S : xS} {n l : Nat} : sL (mhurt G S n l) = va_up (sL S) n (sL S n - l) := by
  unfold mhurt; split
  · rw [sL_let, sL_uL]
  · rw [sL_uL]
theorem sR_let {S : xS} {p : Nat} {c : Int32} : sR (mlet S p c) = sR S := by unfold mlet; split <;> rfl
theorem sF_let {S : xS} {p : Nat} {c : Int32} : sF (mlet S p c) = sF S := by unfold mlet; split <;> rfl
theorem sO_let {S : xS} {p : Nat} {c : Int32} : sO (mlet S p c) = sO S := by unfold mlet; split <;> rfl
/-- the position of what can stand -/
def mpos (S : xS) (n : Nat) : Nat := (sC S n).toNatClampNeg
theorem mpos_at {G : xG} {S : xS} {n : Nat} (hW : wG G) (h : wS G S) (hn : n < gT G) (hk : gkind G n ≤ 2) : sC S n = nI (mpos S n) ∧ mpos S n < gN G := by
  obtain ⟨k, h1, h2⟩ := h.1 n hn hk
  have hb : gN G ≤ 100 := hW.2.2.2.2.2.2.2.2.2.2.2.2.2.1
  have : mpos S n = k := by unfold mpos; rw [h2, nI_clamp (by omega)]
  rw [this]
  exact ⟨h2, h1⟩
theorem mpos_P {G : xG} {S : xS} {p : Nat} (hW : wG G) (h : wS G S) (hp : p < gP G) : sC S p = nI (mpos S p) ∧ mpos S p < gN G := by
  have b7 : gP G ≤ gT G := hW.2.2.2.2.2.2.1
  have wk0 := hW.2.2.2.2.2.2.2.2.2.2.2.1 p hp
  exact mpos_at hW h (by omega) (by omega)
theorem mnext_lt {G : xG} {k d j : Nat} (hW : wG G) (hk : k < gN G) (h : mnext G k d = some j) : j < gN G := by
  have b1 : 3 ≤ gw G := hW.1
  have hN : gN G = gw G * gh G := rfl
  have hm : gw G * (k / gw G) + k % gw G = k := Nat.div_add_mod k (gw G)
  have hr : k % gw G < gw G := Nat.mod_lt _ (by omega)
  unfold mnext at h
  split at h
  · split at h
    · cases h
    · cases h; omega
  · split at h
    · cases h
      rename_i q
      have h3 : k / gw G < gh G := by
        rw [hN] at hk
        exact Nat.div_lt_of_lt_mul hk
      have h4 : gw G * (k / gw G) + gw G ≤ gw G * gh G := by
        have : gw G * (k / gw G + 1) ≤ gw G * gh G := Nat.mul_le_mul_left _ h3
        rw [Nat.mul_add, Nat.mul_one] at this
        exact this
      rw [hN]; omega
    · cases h
  · split at h
    · cases h
      rename_i q
      have h4 : gw G * (k / gw G + 1 + 1) ≤ gw G * gh G := Nat.mul_le_mul_left _ q
      rw [Nat.mul_add, Nat.mul_add, Nat.mul_one] at h4
      rw [hN]; omega
    · cases h
  · split at h
    · cases h
    · cases h; omega
/-! entering a cell -/
def mgoS (G : xG) (n k i : Nat) (S : xS) : xS :=
  if sC S i = nI k ∧ gkind G i = 3 ∧ n < gP G then uL (uC S i (-1)) n (if sL S n + 2 < 5 then sL S n + 2 else 5)
  else if sC S i = nI k ∧ gkind G i = 4 then mhurt G (uC S i (-1)) n 2 else S
def mgoL (G : xG) (n k : Nat) : Nat → Nat → xS → xS
  | _, 0, S => S
  | i, f + 1, S => if 0 < sL S n then mgoL G n k (i + 1) f (mgoS G n k i S) else S
def mgo (G : xG) (S : xS) (n k : Nat) : xS := mgoL G n k 0 (gT G) (uC S n (nI k))
def menter (G : xG) (S : xS) (n : Nat) (o : Option Nat) : xS := match o with
  | none => S
  | some k => if mfree G S (some k) = true then mgo G S n k else S
theorem wS_goS {G : xG} {S : xS} {n k i : Nat} (h : wS G S) (hn : n < gT G) (hi : i < gT G) (hl : 0 < sL S n) : wS G (mgoS G n k i S) := by
  unfold mgoS
  split
  · rename_i q
    refine wS_uL (wS_uC_it h (by omega)) (by split <;> omega) (fun _ => h.2.2.1 n hn hl)
  · split
    · rename_i q
      exact wS_hurt (wS_uC_it h (by omega)) hn
    · exact h
theorem wS_goL {G : xG} {n k : Nat} (hn : n < gT G) : ∀ (f i : Nat) (S : xS), i + f ≤ gT G → wS G S → wS G (mgoL G n k i f S)
  | 0, i, S, hf, h => h
  | f + 1, i, S, hf, h => by
    rw [mgoL]
    split
    · rename_i q
      exact wS_goL hn f (i + 1) _ (by omega) (wS_goS h hn (by omega) q)
    · exact h
theorem wS_go {G : xG} {S : xS} {n k : Nat} (h : wS G S) (hn : n < gT G) (hk : k < gN G) : wS G (mgo G S n k) := wS_goL hn _ _ _ (by omega) (wS_uC_pos h hk)
theorem wS_enter {G : xG} {S : xS} {n : Nat} {o : Option Nat} (h : wS G S) (hn : n < gT G) (ho : ∀ k, o = some k → k < gN G) : wS G (menter G S n o) := by
  unfold menter
  split
  · exact h
  · split
    · exact wS_go h hn (ho _ rfl)
    · exact h
/-! acts -/
def mline (G : xG) (S : xS) (d : Nat) : Nat → Option Nat → Option Nat
  | 0, _ => none
  | _ + 1, none => none
  | f + 1, some k => if mbars G S k = true then none else match mstand G S k with
    | some n => some n
    | none => mline G S d f (mnext G k d)
def mshoot (G : xG) (S : xS) (p d : Nat) : Option Nat × xS :=
  if sR S p = 0 then
    match mline G (uR (uF S p (nI d)) p 3) d 7 (mnext G (mpos S p) d) with
    | none => (none, uR (uF S p (nI d)) p 3)
    | some n => (some n, mhurt G (uR (uF S p (nI d)) p 3) n 1)
  else (none, S)
def mfly (G : xG) (S : xS) (d : Nat) : Nat → Nat → Option Nat → Nat × Option Nat
  | 0, l, _ => (l, none)
  | _ + 1, l, none => (l, none)
  | f + 1, l, some k => if mbars G S k = true then (l, none) else match mstand G S k with
    | some n => (k, some n)
    | none => mfly G S d f k (mnext G k d)
def mhurl (G : xG) (S : xS) (p d : Nat) : Option Nat × xS :=
  if mcar G S p 5 = true then
    match mfly G (uF S p (nI d)) d 4 (mpos S p) (mnext G (mpos S p) d) with
    | (l, none) => (none, mlet (uF S p (nI d)) p (nI l))
    | (l, some n) => (some n, mhurt G (mlet (uF S p (nI d)) p (nI l)) n 1)
  else (none, S)
def mwn (G : xG) (S : xS) (p d w : Nat) : Bool := match mnext G (mpos S p) d with
  | none => false
  | some k => mshut G S k && decide (gword G (glink G k) = w)
def mtry (G : xG) (S : xS) (p d w : Nat) : xS := match mnext G (mpos S p) d with
  | none => uF S p (nI d)
  | some k => if mwn G S p d w = true then uO (uF S p (nI d)) (glink G k) 1 else uF S p (nI d)
def mpkL (G : xG) (p : Nat) : Nat → Nat → xS → xS
  | _, 0, S => S
  | n, f + 1, S => match sH S p with
    | some _ => S
    | none => mpkL G p (n + 1) f (if 5 ≤ gkind G n ∧ sC S n = sC S p then uC (uB (uH S p (some n)) n (some p)) n (-2) else S)
def mpk (G : xG) (S : xS) (p : Nat) : xS := mpkL G p 0 (gT G) S
def mhit (o : Option Nat) : Nat := match o with
  | none => 0
  | some n => n + 1
/-- what player p's act of a code does: the hit, and the state -/
def mact (G : xG) (S : xS) (p c : Nat) : Nat × xS := match c % 16 with
  | 1 => (0, menter G (uF S p (nI (c / 16 % 4))) p (mnext G (mpos S p) (c / 16 % 4)))
  | 2 => (mhit (mshoot G S p (c / 16 % 4)).1, (mshoot G S p (c / 16 % 4)).2)
  | 3 => (0, mtry G S p (c / 16 % 4) (c / 64 % 16))
  | 4 => (0, mpk G S p)
  | 5 => (0, mlet S p (sC S p))
  | 6 => (mhit (mhurl G S p (c / 16 % 4)).1, (mhurl G S p (c / 16 % 4)).2)
  | _ => (0, S)
