def RM (G : xG) (S : xS) (M : xM) (s : Nat) : Prop := (∀ n, n < gT G → M.2.1 5 (s + 6 * n + 0) = sC S n) ∧ (∀ n, n < gT G → M.2.1 5 (s + 6 * n + 1) = nI (sL S n)) ∧ (∀ n, n < gT G → M.2.1 5 (s + 6 * n + 5) = xo (sB S n)) ∧ (∀ n, n < gP G → M.2.1 5 (s + 6 * n + 2) = sF S n) ∧ (∀ n, n < gP G → M.2.1 5 (s + 6 * n + 3) = nI (sR S n)) ∧ (∀ n, n < gP G → M.2.1 5 (s + 6 * n + 4) = xo (sH S n)) ∧ (∀ n, n < gP G → M.2.1 5 (s + 104 + n) = sP S n) ∧ (∀ n, n < gP G → M.2.1 5 (s + 108 + n) = sK S n) ∧ (∀ n, n < gD G → M.2.1 5 (s + 96 + n) = sO S n) ∧ (∀ n, gP G ≤ n → n < gT G → M.2.1 5 (s + 6 * n + 2) = 0 ∧ M.2.1 5 (s + 6 * n + 3) = 0 ∧ M.2.1 5 (s + 6 * n + 4) = xo none)
theorem rmC {G : xG} {S : xS} {M : xM} {s : Nat} (h : RM G S M s) {n : Nat} (hn : n < gT G) : M.2.1 5 (s + 6 * n + 0) = sC S n := h.1 n hn
theorem rmL {G : xG} {S : xS} {M : xM} {s : Nat} (h : RM G S M s) {n : Nat} (hn : n < gT G) : M.2.1 5 (s + 6 * n + 1) = nI (sL S n) := h.2.1 n hn
theorem rmB {G : xG} {S : xS} {M : xM} {s : Nat} (h : RM G S M s) {n : Nat} (hn : n < gT G) : M.2.1 5 (s + 6 * n + 5) = xo (sB S n) := h.2.2.1 n hn
theorem rmF {G : xG} {S : xS} {M : xM} {s : Nat} (h : RM G S M s) {n : Nat} (hn : n < gP G) : M.2.1 5 (s + 6 * n + 2) = sF S n := h.2.2.2.1 n hn
theorem rmR {G : xG} {S : xS} {M : xM} {s : Nat} (h : RM G S M s) {n : Nat} (hn : n < gP G) : M.2.1 5 (s + 6 * n + 3) = nI (sR S n) := h.2.2.2.2.1 n hn
theorem rmH {G : xG} {S : xS} {M : xM} {s : Nat} (h : RM G S M s) {n : Nat} (hn : n < gP G) : M.2.1 5 (s + 6 * n + 4) = xo (sH S n) := h.2.2.2.2.2.1 n hn
theorem rmP {G : xG} {S : xS} {M : xM} {s : Nat} (h : RM G S M s) {n : Nat} (hn : n < gP G) : M.2.1 5 (s + 104 + n) = sP S n := h.2.2.2.2.2.2.1 n hn
theorem rmK {G : xG} {S : xS} {M : xM} {s : Nat} (h : RM G S M s) {n : Nat} (hn : n < gP G) : M.2.1 5 (s + 108 + n) = sK S n := h.2.2.2.2.2.2.2.1 n hn
theorem rmO {G : xG} {S : xS} {M : xM} {s : Nat} (h : RM G S M s) {n : Nat} (hn : n < gD G) : M.2.1 5 (s + 96 + n) = sO S n := h.2.2.2.2.2.2.2.2.1 n hn
theorem rmZ {G : xG} {S : xS} {M : xM} {s : Nat} (h : RM G S M s) {n : Nat} (h1 : gP G ≤ n) (hn : n < gT G) : M.2.1 5 (s + 6 * n + 2) = 0 ∧ M.2.1 5 (s + 6 * n + 3) = 0 ∧ M.2.1 5 (s + 6 * n + 4) = xo none := h.2.2.2.2.2.2.2.2.2 n h1 hn
def mHn (G : xG) (S : xS) (n : Nat) : Option Nat := if n < gP G then sH S n else none
theorem rmHn {G : xG} {S : xS} {M : xM} {s : Nat} (h : RM G S M s) {n : Nat} (hn : n < gT G) : M.2.1 5 (s + 6 * n + 4) = xo (mHn G S n) := by
  unfold mHn
  split
  · rename_i q; exact rmH h q
  · exact (rmZ h (by omega) hn).2.2
theorem upd_s {f : Nat → Int32} {k : Nat} {x : Int32} : upd f k x k = x := if_pos rfl
theorem upd_n {f : Nat → Int32} {k j : Nat} {x : Int32} (h : j ≠ k) : upd f k x j = f j := if_neg h
theorem rmuC {G : xG} {S : xS} {M : xM} {s : Nat} (hW : wG G) (h : RM G S M s) {j : Nat} (hj : j < gT G) (v : Int32) : RM G (uC S j v) (xa M 5 (upd (M.2.1 5) (s + 6 * j + 0) (v))) s := by
  obtain ⟨b1, b2, b3, b4, b5, b6, b7, b8, b9, wmap, wlink, wk0, wk1, b10, b11, wword⟩ := id hW
  refine ⟨?_, ?_, ?_, ?_, ?_, ?_, ?_, ?_, ?_, ?_⟩
  · intro n hn
    rw [xa_s]
    by_cases e : n = j
    · subst e; rw [upd_s, sC_uC, up_s]
    · rw [upd_n (by omega), sC_uC, up_n e]; exact rmC h hn
  · intro n hn
    rw [xa_s, upd_n (by omega)]; exact rmL h hn
  · intro n hn
    rw [xa_s, upd_n (by omega)]; exact rmB h hn
  · intro n hn
    rw [xa_s, upd_n (by omega)]; exact rmF h hn
  · intro n hn
    rw [xa_s, upd_n (by omega)]; exact rmR h hn
  · intro n hn
    rw [xa_s, upd_n (by omega)]; exact rmH h hn
  · intro n hn
    rw [xa_s, upd_n (by omega)]; exact rmP h hn
  · intro n hn
    rw [xa_s, upd_n (by omega)]; exact rmK h hn
  · intro n hn
    rw [xa_s, upd_n (by omega)]; exact rmO h hn
  · intro n h1 hn
    rw [xa_s, upd_n (by omega), upd_n (by omega), upd_n (by omega)]; exact rmZ h h1 hn
theorem rmuL {G : xG} {S : xS} {M : xM} {s : Nat} (hW : wG G) (h : RM G S M s) {j : Nat} (hj : j < gT G) (v : Nat) : RM G (uL S j v) (xa M 5 (upd (M.2.1 5) (s + 6 * j + 1) (nI (v)))) s := by
  obtain ⟨b1, b2, b3, b4, b5, b6, b7, b8, b9, wmap, wlink, wk0, wk1, b10, b11, wword⟩ := id hW
  refine ⟨?_, ?_, ?_, ?_, ?_, ?_, ?_, ?_, ?_, ?_⟩
  · intro n hn
    rw [xa_s, upd_n (by omega)]; exact rmC h hn
  · intro n hn
    rw [xa_s]
    by_cases e : n = j
    · subst e; rw [upd_s, sL_uL, up_s]
    · rw [upd_n (by omega), sL_uL, up_n e]; exact rmL h hn
  · intro n hn
    rw [xa_s, upd_n (by omega)]; exact rmB h hn
  · intro n hn
    rw [xa_s, upd_n (by omega)]; exact rmF h hn
  · intro n hn
    rw [xa_s, upd_n (by omega)]; exact rmR h hn
  · intro n hn
    rw [xa_s, upd_n (by omega)]; exact rmH h hn
  · intro n hn
    rw [xa_s, upd_n (by omega)]; exact rmP h hn
  · intro n hn
    rw [xa_s, upd_n (by omega)]; exact rmK h hn
  · intro n hn
    rw [xa_s, upd_n (by omega)]; exact rmO h hn
  · intro n h1 hn
    rw [xa_s, upd_n (by omega), upd_n (by omega), upd_n (by omega)]; exact rmZ h h1 hn
theorem rmuB {G : xG} {S : xS} {M : xM} {s : Nat} (hW : wG G) (h : RM G S M s) {j : Nat} (hj : j < gT G) (v : Option Nat) : RM G (uB S j v) (xa M 5 (upd (M.2.1 5) (s + 6 * j + 5) (xo (v)))) s := by
  obtain ⟨b1, b2, b3, b4, b5, b6, b7, b8, b9, wmap, wlink, wk0, wk1, b10, b11, wword⟩ := id hW
  refine ⟨?_, ?_, ?_, ?_, ?_, ?_, ?_, ?_, ?_, ?_⟩
  · intro n hn
    rw [xa_s, upd_n (by omega)]; exact rmC h hn
  · intro n hn
    rw [xa_s, upd_n (by omega)]; exact rmL h hn
  · intro n hn
    rw [xa_s]
    by_cases e : n = j
    · subst e; rw [upd_s, sB_uB, up_s]
    · rw [upd_n (by omega), sB_uB, up_n e]; exact rmB h hn
  · intro n hn
    rw [xa_s, upd_n (by omega)]; exact rmF h hn
  · intro n hn
    rw [xa_s, upd_n (by omega)]; exact rmR h hn
  · intro n hn
    rw [xa_s, upd_n (by omega)]; exact rmH h hn
  · intro n hn
    rw [xa_s, upd_n (by omega)]; exact rmP h hn
  · intro n hn
    rw [xa_s, upd_n (by omega)]; exact rmK h hn
  · intro n hn
    rw [xa_s, upd_n (by omega)]; exact rmO h hn
  · intro n h1 hn
    rw [xa_s, upd_n (by omega), upd_n (by omega), upd_n (by omega)]; exact rmZ h h1 hn
theorem rmuF {G : xG} {S : xS} {M : xM} {s : Nat} (hW : wG G) (h : RM G S M s) {j : Nat} (hj : j < gP G) (v : Int32) : RM G (uF S j v) (xa M 5 (upd (M.2.1 5) (s + 6 * j + 2) (v))) s := by
  obtain ⟨b1, b2, b3, b4, b5, b6, b7, b8, b9, wmap, wlink, wk0, wk1, b10, b11, wword⟩ := id hW
  refine ⟨?_, ?_, ?_, ?_, ?_, ?_, ?_, ?_, ?_, ?_⟩
  · intro n hn
    rw [xa_s, upd_n (by omega)]; exact rmC h hn
  · intro n hn
    rw [xa_s, upd_n (by omega)]; exact rmL h hn
  · intro n hn
    rw [xa_s, upd_n (by omega)]; exact rmB h hn
  · intro n hn
    rw [xa_s]
    by_cases e : n = j
    · subst e; rw [upd_s, sF_uF, up_s]
    · rw [upd_n (by omega), sF_uF, up_n e]; exact rmF h hn
  · intro n hn
    rw [xa_s, upd_n (by omega)]; exact rmR h hn
  · intro n hn
    rw [xa_s, upd_n (by omega)]; exact rmH h hn
  · intro n hn
    rw [xa_s, upd_n (by omega)]; exact rmP h hn
  · intro n hn
    rw [xa_s, upd_n (by omega)]; exact rmK h hn
  · intro n hn
    rw [xa_s, upd_n (by omega)]; exact rmO h hn
  · intro n h1 hn
    rw [xa_s, upd_n (by omega), upd_n (by omega), upd_n (by omega)]; exact rmZ h h1 hn
theorem rmuR {G : xG} {S : xS} {M : xM} {s : Nat} (hW : wG G) (h : RM G S M s) {j : Nat} (hj : j < gP G) (v : Nat) : RM G (uR S j v) (xa M 5 (upd (M.2.1 5) (s + 6 * j + 3) (nI (v)))) s := by
  obtain ⟨b1, b2, b3, b4, b5, b6, b7, b8, b9, wmap, wlink, wk0, wk1, b10, b11, wword⟩ := id hW
  refine ⟨?_, ?_, ?_, ?_, ?_, ?_, ?_, ?_, ?_, ?_⟩
  · intro n hn
    rw [xa_s, upd_n (by omega)]; exact rmC h hn
  · intro n hn
    rw [xa_s, upd_n (by omega)]; exact rmL h hn
  · intro n hn
    rw [xa_s, upd_n (by omega)]; exact rmB h hn
  · intro n hn
    rw [xa_s, upd_n (by omega)]; exact rmF h hn
  · intro n hn
    rw [xa_s]
    by_cases e : n = j
    · subst e; rw [upd_s, sR_uR, up_s]
    · rw [upd_n (by omega), sR_uR, up_n e]; exact rmR h hn
  · intro n hn
    rw [xa_s, upd_n (by omega)]; exact rmH h hn
  · intro n hn
    rw [xa_s, upd_n (by omega)]; exact rmP h hn
  · intro n hn
    rw [xa_s, upd_n (by omega)]; exact rmK h hn
  · intro n hn
    rw [xa_s, upd_n (by omega)]; exact rmO h hn
  · intro n h1 hn
    rw [xa_s, upd_n (by omega), upd_n (by omega), upd_n (by omega)]; exact rmZ h h1 hn
theorem rmuH {G : xG} {S : xS} {M : xM} {s : Nat} (hW : wG G) (h : RM G S M s) {j : Nat} (hj : j < gP G) (v : Option Nat) : RM G (uH S j v) (xa M 5 (upd (M.2.1 5) (s + 6 * j + 4) (xo (v)))) s := by
  obtain ⟨b1, b2, b3, b4, b5, b6, b7, b8, b9, wmap, wlink, wk0, wk1, b10, b11, wword⟩ := id hW
  refine ⟨?_, ?_, ?_, ?_, ?_, ?_, ?_, ?_, ?_, ?_⟩
  · intro n hn
    rw [xa_s, upd_n (by omega)]; exact rmC h hn
  · intro n hn
    rw [xa_s, upd_n (by omega)]; exact rmL h hn
  · intro n hn
    rw [xa_s, upd_n (by omega)]; exact rmB h hn
  · intro n hn
    rw [xa_s, upd_n (by omega)]; exact rmF h hn
  · intro n hn
    rw [xa_s, upd_n (by omega)]; exact rmR h hn
  · intro n hn
    rw [xa_s]
    by_cases e : n = j
    · subst e; rw [upd_s, sH_uH, up_s]
    · rw [upd_n (by omega), sH_uH, up_n e]; exact rmH h hn
  · intro n hn
    rw [xa_s, upd_n (by omega)]; exact rmP h hn
  · intro n hn
    rw [xa_s, upd_n (by omega)]; exact rmK h hn
  · intro n hn
    rw [xa_s, upd_n (by omega)]; exact rmO h hn
  · intro n h1 hn
    rw [xa_s, upd_n (by omega), upd_n (by omega), upd_n (by omega)]; exact rmZ h h1 hn
theorem rmuP {G : xG} {S : xS} {M : xM} {s : Nat} (hW : wG G) (h : RM G S M s) {j : Nat} (hj : j < gP G) (v : Int32) : RM G (uP S j v) (xa M 5 (upd (M.2.1 5) (s + 104 + j) (v))) s := by
  obtain ⟨b1, b2, b3, b4, b5, b6, b7, b8, b9, wmap, wlink, wk0, wk1, b10, b11, wword⟩ := id hW
  refine ⟨?_, ?_, ?_, ?_, ?_, ?_, ?_, ?_, ?_, ?_⟩
  · intro n hn
    rw [xa_s, upd_n (by omega)]; exact rmC h hn
  · intro n hn
    rw [xa_s, upd_n (by omega)]; exact rmL h hn
  · intro n hn
    rw [xa_s, upd_n (by omega)]; exact rmB h hn
  · intro n hn
    rw [xa_s, upd_n (by omega)]; exact rmF h hn
  · intro n hn
    rw [xa_s, upd_n (by omega)]; exact rmR h hn
  · intro n hn
    rw [xa_s, upd_n (by omega)]; exact rmH h hn
  · intro n hn
    rw [xa_s]
    by_cases e : n = j
    · subst e; rw [upd_s, sP_uP, up_s]
    · rw [upd_n (by omega), sP_uP, up_n e]; exact rmP h hn
  · intro n hn
    rw [xa_s, upd_n (by omega)]; exact rmK h hn
  · intro n hn
    rw [xa_s, upd_n (by omega)]; exact rmO h hn
  · intro n h1 hn
    rw [xa_s, upd_n (by omega), upd_n (by omega), upd_n (by omega)]; exact rmZ h h1 hn
theorem rmuK {G : xG} {S : xS} {M : xM} {s : Nat} (hW : wG G) (h : RM G S M s) {j : Nat} (hj : j < gP G) (v : Int32) : RM G (uK S j v) (xa M 5 (upd (M.2.1 5) (s + 108 + j) (v))) s := by
  obtain ⟨b1, b2, b3, b4, b5, b6, b7, b8, b9, wmap, wlink, wk0, wk1, b10, b11, wword⟩ := id hW
  refine ⟨?_, ?_, ?_, ?_, ?_, ?_, ?_, ?_, ?_, ?_⟩
  · intro n hn
    rw [xa_s, upd_n (by omega)]; exact rmC h hn
  · intro n hn
    rw [xa_s, upd_n (by omega)]; exact rmL h hn
  · intro n hn
    rw [xa_s, upd_n (by omega)]; exact rmB h hn
  · intro n hn
    rw [xa_s, upd_n (by omega)]; exact rmF h hn
  · intro n hn
    rw [xa_s, upd_n (by omega)]; exact rmR h hn
  · intro n hn
    rw [xa_s, upd_n (by omega)]; exact rmH h hn
  · intro n hn
    rw [xa_s, upd_n (by omega)]; exact rmP h hn
  · intro n hn
    rw [xa_s]
    by_cases e : n = j
    · subst e; rw [upd_s, sK_uK, up_s]
    · rw [upd_n (by omega), sK_uK, up_n e]; exact rmK h hn
  · intro n hn
    rw [xa_s, upd_n (by omega)]; exact rmO h hn
  · intro n h1 hn
    rw [xa_s, upd_n (by omega), upd_n (by omega), upd_n (by omega)]; exact rmZ h h1 hn
theorem rmuO {G : xG} {S : xS} {M : xM} {s : Nat} (hW : wG G) (h : RM G S M s) {j : Nat} (hj : j < gD G) (v : Int32) : RM G (uO S j v) (xa M 5 (upd (M.2.1 5) (s + 96 + j) (v))) s := by
  obtain ⟨b1, b2, b3, b4, b5, b6, b7, b8, b9, wmap, wlink, wk0, wk1, b10, b11, wword⟩ := id hW
  refine ⟨?_, ?_, ?_, ?_, ?_, ?_, ?_, ?_, ?_, ?_⟩
  · intro n hn
    rw [xa_s, upd_n (by omega)]; exact rmC h hn
  · intro n hn
    rw [xa_s, upd_n (by omega)]; exact rmL h hn
  · intro n hn
    rw [xa_s, upd_n (by omega)]; exact rmB h hn
  · intro n hn
    rw [xa_s, upd_n (by omega)]; exact rmF h hn
  · intro n hn
    rw [xa_s, upd_n (by omega)]; exact rmR h hn
  · intro n hn
    rw [xa_s, upd_n (by omega)]; exact rmH h hn
  · intro n hn
    rw [xa_s, upd_n (by omega)]; exact rmP h hn
  · intro n hn
    rw [xa_s, upd_n (by omega)]; exact rmK h hn
  · intro n hn
    rw [xa_s]
    by_cases e : n = j
    · subst e; rw [upd_s, sO_uO, up_s]
    · rw [upd_n (by omega), sO_uO, up_n e]; exact rmO h hn
  · intro n h1 hn
    rw [xa_s, upd_n (by omega), upd_n (by omega), upd_n (by omega)]; exact rmZ h h1 hn
/-- changed in one state of the row of states alone -/
def Fm (s : Nat) (M M2 : xM) : Prop := M2.1 = M.1 ∧ M2.2.2 = M.2.2 ∧ (∀ a, ¬ a = 5 → M2.2.1 a = M.2.1 a) ∧ ∀ i, (i < s ∨ s + 112 ≤ i) → M2.2.1 5 i = M.2.1 5 i
theorem Fm.rf {s : Nat} {M : xM} : Fm s M M := ⟨rfl, rfl, fun _ _ => rfl, fun _ _ => rfl⟩
theorem Fm.tr {s : Nat} {M M1 M2 : xM} (h : Fm s M M1) (h2 : Fm s M1 M2) : Fm s M M2 := ⟨h2.1.trans h.1, h2.2.1.trans h.2.1, fun a ha => (h2.2.2.1 a ha).trans (h.2.2.1 a ha), fun i hi => (h2.2.2.2 i hi).trans (h.2.2.2 i hi)⟩
theorem Fm.xa {s : Nat} {M : xM} {k : Nat} {v : Int32} (h1 : s ≤ k) (h2 : k < s + 112) : Fm s M (xa M 5 (upd (M.2.1 5) k v)) := ⟨rfl, rfl, fun a ha => xa_n ha, fun i hi => by rw [xa_s, upd_n (by omega)]⟩
/-- the ground in the model's cells -/
def MG (G : xG) (M : xM) : Prop := M.1 0 1 = nI (gw G) ∧ M.1 0 2 = nI (gh G) ∧ M.1 0 3 = nI (gP G) ∧ M.1 0 6 = nI (gD G) ∧ M.1 0 8 = nI (gT G) ∧ (∀ k, k < gN G → M.2.1 1 k = nI (gmap G k)) ∧ (∀ k, k < gN G → gmap G k = 2 ∨ gmap G k = 3 → M.2.1 2 k = nI (glink G k)) ∧ (∀ d, d < gD G → M.2.1 3 d = nI (gword G d)) ∧ (∀ n, n < gT G → M.2.1 4 n = nI (gkind G n))
theorem mg_w {G : xG} {M : xM} (h : MG G M) : M.1 0 1 = nI (gw G) := h.1
theorem mg_h {G : xG} {M : xM} (h : MG G M) : M.1 0 2 = nI (gh G) := h.2.1
theorem mg_P {G : xG} {M : xM} (h : MG G M) : M.1 0 3 = nI (gP G) := h.2.2.1
theorem mg_D {G : xG} {M : xM} (h : MG G M) : M.1 0 6 = nI (gD G) := h.2.2.2.1
theorem mg_T {G : xG} {M : xM} (h : MG G M) : M.1 0 8 = nI (gT G) := h.2.2.2.2.1
theorem mg_map {G : xG} {M : xM} (h : MG G M) {k : Nat} (hk : k < gN G) : M.2.1 1 k = nI (gmap G k) := h.2.2.2.2.2.1 k hk
theorem mg_link {G : xG} {M : xM} (h : MG G M) {k : Nat} (hk : k < gN G) (hd : gmap G k = 2 ∨ gmap G k = 3) : M.2.1 2 k = nI (glink G k) := h.2.2.2.2.2.2.1 k hk hd
theorem mg_word {G : xG} {M : xM} (h : MG G M) {d : Nat} (hd : d < gD G) : M.2.1 3 d = nI (gword G d) := h.2.2.2.2.2.2.2.1 d hd
theorem mg_kind {G : xG} {M : xM} (h : MG G M) {n : Nat} (hn : n < gT G) : M.2.1 4 n = nI (gkind G n) := h.2.2.2.2.2.2.2.2 n hn
theorem MG.keep {G : xG} {M M2 : xM} (h : MG G M) (h1 : M2.1 0 = M.1 0) (h2 : ∀ a, a < 5 → M2.2.1 a = M.2.1 a) : MG G M2 := by
  obtain ⟨q0, q1, q2, q3, q4, q5, q6, q7, q8⟩ := h
  refine ⟨by rw [h1]; exact q0, by rw [h1]; exact q1, by rw [h1]; exact q2, by rw [h1]; exact q3, by rw [h1]; exact q4, ?_, ?_, ?_, ?_⟩
  · rw [h2 1 (by omega)]; exact q5
  · rw [h2 2 (by omega)]; exact q6
  · rw [h2 3 (by omega)]; exact q7
  · rw [h2 4 (by omega)]; exact q8
theorem MG.fm {G : xG} {M M2 : xM} {s : Nat} (h : MG G M) (f : Fm s M M2) : MG G M2 := h.keep (by rw [f.1]) (fun a ha => f.2.2.1 a (by omega))
