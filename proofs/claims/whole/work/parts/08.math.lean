theorem xat {sh : List xSh} {Y : xY} {pc : Nat} {lv : List (Option Value)} {st : List Value} {M : xM} {Q : Option Value → xM → Prop} (pc' : Nat) (h : pc = pc') (k : WP sh Y pc' lv st M Q) : WP sh Y pc lv st M Q := h ▸ k
theorem xinc (n : Nat) : nI n + Int32.ofInt 1 = nI (n + 1) := nI_1 n
theorem xdec (n : Nat) : nI (n + 1) + Int32.ofInt (-1) = nI n := pk_m1 n
/-- the ground: columns, rows, players, things, doors; map, a door's number, its word, kinds -/
abbrev xG : Type := Nat × Nat × Nat × Nat × Nat × (Nat → Nat) × (Nat → Nat) × (Nat → Nat) × (Nat → Nat)
def gw (G : xG) : Nat := G.1
def gh (G : xG) : Nat := G.2.1
def gP (G : xG) : Nat := G.2.2.1
def gT (G : xG) : Nat := G.2.2.2.1
def gD (G : xG) : Nat := G.2.2.2.2.1
def gmap (G : xG) : Nat → Nat := G.2.2.2.2.2.1
def glink (G : xG) : Nat → Nat := G.2.2.2.2.2.2.1
def gword (G : xG) : Nat → Nat := G.2.2.2.2.2.2.2.1
def gkind (G : xG) : Nat → Nat := G.2.2.2.2.2.2.2.2
def gN (G : xG) : Nat := gw G * gh G
/-- what a ground always is -/
def wG (G : xG) : Prop := 3 ≤ gw G ∧ gw G ≤ 10 ∧ 3 ≤ gh G ∧ gh G ≤ 10 ∧ 1 ≤ gP G ∧ gP G ≤ 4 ∧ gP G ≤ gT G ∧ gT G ≤ 16 ∧ gD G ≤ 8 ∧ (∀ k, k < gN G → gmap G k ≤ 3) ∧ (∀ k, k < gN G → gmap G k = 2 ∨ gmap G k = 3 → glink G k < gD G) ∧ (∀ n, n < gP G → gkind G n = 0) ∧ (∀ n, gP G ≤ n → n < gT G → 1 ≤ gkind G n ∧ gkind G n ≤ 7) ∧ gN G ≤ 100 ∧ 9 ≤ gN G ∧ (∀ d, d < gD G → gword G d ≤ 15)
/-- a state: cell, life, bearer of a thing; face, rest, load, points, known of a body; doors -/
abbrev xS : Type := (Nat → Int32) × (Nat → Nat) × (Nat → Option Nat) × (Nat → Int32) × (Nat → Nat) × (Nat → Option Nat) × (Nat → Int32) × (Nat → Int32) × (Nat → Int32)
def sC (S : xS) : Nat → Int32 := S.1
def uC (S : xS) (n : Nat) (v : Int32) : xS := (va_up (sC S) n v, S.2.1, S.2.2.1, S.2.2.2.1, S.2.2.2.2.1, S.2.2.2.2.2.1, S.2.2.2.2.2.2.1, S.2.2.2.2.2.2.2.1, S.2.2.2.2.2.2.2.2)
def sL (S : xS) : Nat → Nat := S.2.1
def uL (S : xS) (n : Nat) (v : Nat) : xS := (S.1, va_up (sL S) n v, S.2.2.1, S.2.2.2.1, S.2.2.2.2.1, S.2.2.2.2.2.1, S.2.2.2.2.2.2.1, S.2.2.2.2.2.2.2.1, S.2.2.2.2.2.2.2.2)
def sB (S : xS) : Nat → Option Nat := S.2.2.1
def uB (S : xS) (n : Nat) (v : Option Nat) : xS := (S.1, S.2.1, va_up (sB S) n v, S.2.2.2.1, S.2.2.2.2.1, S.2.2.2.2.2.1, S.2.2.2.2.2.2.1, S.2.2.2.2.2.2.2.1, S.2.2.2.2.2.2.2.2)
def sF (S : xS) : Nat → Int32 := S.2.2.2.1
def uF (S : xS) (n : Nat) (v : Int32) : xS := (S.1, S.2.1, S.2.2.1, va_up (sF S) n v, S.2.2.2.2.1, S.2.2.2.2.2.1, S.2.2.2.2.2.2.1, S.2.2.2.2.2.2.2.1, S.2.2.2.2.2.2.2.2)
def sR (S : xS) : Nat → Nat := S.2.2.2.2.1
def uR (S : xS) (n : Nat) (v : Nat) : xS := (S.1, S.2.1, S.2.2.1, S.2.2.2.1, va_up (sR S) n v, S.2.2.2.2.2.1, S.2.2.2.2.2.2.1, S.2.2.2.2.2.2.2.1, S.2.2.2.2.2.2.2.2)
def sH (S : xS) : Nat → Option Nat := S.2.2.2.2.2.1
def uH (S : xS) (n : Nat) (v : Option Nat) : xS := (S.1, S.2.1, S.2.2.1, S.2.2.2.1, S.2.2.2.2.1, va_up (sH S) n v, S.2.2.2.2.2.2.1, S.2.2.2.2.2.2.2.1, S.2.2.2.2.2.2.2.2)
def sP (S : xS) : Nat → Int32 := S.2.2.2.2.2.2.1
def uP (S : xS) (n : Nat) (v : Int32) : xS := (S.1, S.2.1, S.2.2.1, S.2.2.2.1, S.2.2.2.2.1, S.2.2.2.2.2.1, va_up (sP S) n v, S.2.2.2.2.2.2.2.1, S.2.2.2.2.2.2.2.2)
def sK (S : xS) : Nat → Int32 := S.2.2.2.2.2.2.2.1
def uK (S : xS) (n : Nat) (v : Int32) : xS := (S.1, S.2.1, S.2.2.1, S.2.2.2.1, S.2.2.2.2.1, S.2.2.2.2.2.1, S.2.2.2.2.2.2.1, va_up (sK S) n v, S.2.2.2.2.2.2.2.2)
def sO (S : xS) : Nat → Int32 := S.2.2.2.2.2.2.2.2
def uO (S : xS) (n : Nat) (v : Int32) : xS := (S.1, S.2.1, S.2.2.1, S.2.2.2.1, S.2.2.2.2.1, S.2.2.2.2.2.1, S.2.2.2.2.2.2.1, S.2.2.2.2.2.2.2.1, va_up (sO S) n v)
theorem sC_uC {S : xS} {n : Nat} {v : Int32} : sC (uC S n v) = va_up (sC S) n v := rfl
theorem sC_uL {S : xS} {n : Nat} {v : Nat} : sC (uL S n v) = sC S := rfl
theorem sC_uB {S : xS} {n : Nat} {v : Option Nat} : sC (uB S n v) = sC S := rfl
theorem sC_uF {S : xS} {n : Nat} {v : Int32} : sC (uF S n v) = sC S := rfl
theorem sC_uR {S : xS} {n : Nat} {v : Nat} : sC (uR S n v) = sC S := rfl
theorem sC_uH {S : xS} {n : Nat} {v : Option Nat} : sC (uH S n v) = sC S := rfl
theorem sC_uP {S : xS} {n : Nat} {v : Int32} : sC (uP S n v) = sC S := rfl
theorem sC_uK {S : xS} {n : Nat} {v : Int32} : sC (uK S n v) = sC S := rfl
theorem sC_uO {S : xS} {n : Nat} {v : Int32} : sC (uO S n v) = sC S := rfl
theorem sL_uC {S : xS} {n : Nat} {v : Int32} : sL (uC S n v) = sL S := rfl
theorem sL_uL {S : xS} {n : Nat} {v : Nat} : sL (uL S n v) = va_up (sL S) n v := rfl
theorem sL_uB {S : xS} {n : Nat} {v : Option Nat} : sL (uB S n v) = sL S := rfl
theorem sL_uF {S : xS} {n : Nat} {v : Int32} : sL (uF S n v) = sL S := rfl
theorem sL_uR {S : xS} {n : Nat} {v : Nat} : sL (uR S n v) = sL S := rfl
theorem sL_uH {S : xS} {n : Nat} {v : Option Nat} : sL (uH S n v) = sL S := rfl
theorem sL_uP {S : xS} {n : Nat} {v : Int32} : sL (uP S n v) = sL S := rfl
theorem sL_uK {S : xS} {n : Nat} {v : Int32} : sL (uK S n v) = sL S := rfl
theorem sL_uO {S : xS} {n : Nat} {v : Int32} : sL (uO S n v) = sL S := rfl
theorem sB_uC {S : xS} {n : Nat} {v : Int32} : sB (uC S n v) = sB S := rfl
theorem sB_uL {S : xS} {n : Nat} {v : Nat} : sB (uL S n v) = sB S := rfl
theorem sB_uB {S : xS} {n : Nat} {v : Option Nat} : sB (uB S n v) = va_up (sB S) n v := rfl
theorem sB_uF {S : xS} {n : Nat} {v : Int32} : sB (uF S n v) = sB S := rfl
theorem sB_uR {S : xS} {n : Nat} {v : Nat} : sB (uR S n v) = sB S := rfl
theorem sB_uH {S : xS} {n : Nat} {v : Option Nat} : sB (uH S n v) = sB S := rfl
theorem sB_uP {S : xS} {n : Nat} {v : Int32} : sB (uP S n v) = sB S := rfl
theorem sB_uK {S : xS} {n : Nat} {v : Int32} : sB (uK S n v) = sB S := rfl
theorem sB_uO {S : xS} {n : Nat} {v : Int32} : sB (uO S n v) = sB S := rfl
theorem sF_uC {S : xS} {n : Nat} {v : Int32} : sF (uC S n v) = sF S := rfl
theorem sF_uL {S : xS} {n : Nat} {v : Nat} : sF (uL S n v) = sF S := rfl
theorem sF_uB {S : xS} {n : Nat} {v : Option Nat} : sF (uB S n v) = sF S := rfl
theorem sF_uF {S : xS} {n : Nat} {v : Int32} : sF (uF S n v) = va_up (sF S) n v := rfl
theorem sF_uR {S : xS} {n : Nat} {v : Nat} : sF (uR S n v) = sF S := rfl
theorem sF_uH {S : xS} {n : Nat} {v : Option Nat} : sF (uH S n v) = sF S := rfl
theorem sF_uP {S : xS} {n : Nat} {v : Int32} : sF (uP S n v) = sF S := rfl
theorem sF_uK {S : xS} {n : Nat} {v : Int32} : sF (uK S n v) = sF S := rfl
theorem sF_uO {S : xS} {n : Nat} {v : Int32} : sF (uO S n v) = sF S := rfl
theorem sR_uC {S : xS} {n : Nat} {v : Int32} : sR (uC S n v) = sR S := rfl
theorem sR_uL {S : xS} {n : Nat} {v : Nat} : sR (uL S n v) = sR S := rfl
theorem sR_uB {S : xS} {n : Nat} {v : Option Nat} : sR (uB S n v) = sR S := rfl
theorem sR_uF {S : xS} {n : Nat} {v : Int32} : sR (uF S n v) = sR S := rfl
theorem sR_uR {S : xS} {n : Nat} {v : Nat} : sR (uR S n v) = va_up (sR S) n v := rfl
theorem sR_uH {S : xS} {n : Nat} {v : Option Nat} : sR (uH S n v) = sR S := rfl
theorem sR_uP {S : xS} {n : Nat} {v : Int32} : sR (uP S n v) = sR S := rfl
theorem sR_uK {S : xS} {n : Nat} {v : Int32} : sR (uK S n v) = sR S := rfl
theorem sR_uO {S : xS} {n : Nat} {v : Int32} : sR (uO S n v) = sR S := rfl
theorem sH_uC {S : xS} {n : Nat} {v : Int32} : sH (uC S n v) = sH S := rfl
theorem sH_uL {S : xS} {n : Nat} {v : Nat} : sH (uL S n v) = sH S := rfl
theorem sH_uB {S : xS} {n : Nat} {v : Option Nat} : sH (uB S n v) = sH S := rfl
theorem sH_uF {S : xS} {n : Nat} {v : Int32} : sH (uF S n v) = sH S := rfl
theorem sH_uR {S : xS} {n : Nat} {v : Nat} : sH (uR S n v) = sH S := rfl
theorem sH_uH {S : xS} {n : Nat} {v : Option Nat} : sH (uH S n v) = va_up (sH S) n v := rfl
theorem sH_uP {S : xS} {n : Nat} {v : Int32} : sH (uP S n v) = sH S := rfl
theorem sH_uK {S : xS} {n : Nat} {v : Int32} : sH (uK S n v) = sH S := rfl
theorem sH_uO {S : xS} {n : Nat} {v : Int32} : sH (uO S n v) = sH S := rfl
theorem sP_uC {S : xS} {n : Nat} {v : Int32} : sP (uC S n v) = sP S := rfl
theorem sP_uL {S : xS} {n : Nat} {v : Nat} : sP (uL S n v) = sP S := rfl
theorem sP_uB {S : xS} {n : Nat} {v : Option Nat} : sP (uB S n v) = sP S := rfl
theorem sP_uF {S : xS} {n : Nat} {v : Int32} : sP (uF S n v) = sP S := rfl
theorem sP_uR {S : xS} {n : Nat} {v : Nat} : sP (uR S n v) = sP S := rfl
theorem sP_uH {S : xS} {n : Nat} {v : Option Nat} : sP (uH S n v) = sP S := rfl
theorem sP_uP {S : xS} {n : Nat} {v : Int32} : sP (uP S n v) = va_up (sP S) n v := rfl
theorem sP_uK {S : xS} {n : Nat} {v : Int32} : sP (uK S n v) = sP S := rfl
theorem sP_uO {S : xS} {n : Nat} {v : Int32} : sP (uO S n v) = sP S := rfl
theorem sK_uC {S : xS} {n : Nat} {v : Int32} : sK (uC S n v) = sK S := rfl
theorem sK_uL {S : xS} {n : Nat} {v : Nat} : sK (uL S n v) = sK S := rfl
theorem sK_uB {S : xS} {n : Nat} {v : Option Nat} : sK (uB S n v) = sK S := rfl
theorem sK_uF {S : xS} {n : Nat} {v : Int32} : sK (uF S n v) = sK S := rfl
theorem sK_uR {S : xS} {n : Nat} {v : Nat} : sK (uR S n v) = sK S := rfl
theorem sK_uH {S : xS} {n : Nat} {v : Option Nat} : sK (uH S n v) = sK S := rfl
theorem sK_uP {S : xS} {n : Nat} {v : Int32} : sK (uP S n v) = sK S := rfl
theorem sK_uK {S : xS} {n : Nat} {v : Int32} : sK (uK S n v) = va_up (sK S) n v := rfl
theorem sK_uO {S : xS} {n : Nat} {v : Int32} : sK (uO S n v) = sK S := rfl
theorem sO_uC {S : xS} {n : Nat} {v : Int32} : sO (uC S n v) = sO S := rfl
theorem sO_uL {S : xS} {n : Nat} {v : Nat} : sO (uL S n v) = sO S := rfl
theorem sO_uB {S : xS} {n : Nat} {v : Option Nat} : sO (uB S n v) = sO S := rfl
theorem sO_uF {S : xS} {n : Nat} {v : Int32} : sO (uF S n v) = sO S := rfl
theorem sO_uR {S : xS} {n : Nat} {v : Nat} : sO (uR S n v) = sO S := rfl
theorem sO_uH {S : xS} {n : Nat} {v : Option Nat} : sO (uH S n v) = sO S := rfl
theorem sO_uP {S : xS} {n : Nat} {v : Int32} : sO (uP S n v) = sO S := rfl
theorem sO_uK {S : xS} {n : Nat} {v : Int32} : sO (uK S n v) = sO S := rfl
theorem sO_uO {S : xS} {n : Nat} {v : Int32} : sO (uO S n v) = va_up (sO S) n v := rfl
theorem up_s {α : Type} {f : Nat → α} {k : Nat} {v : α} : va_up f k v k = v := if_pos rfl
theorem up_n {α : Type} {f : Nat → α} {k j : Nat} {v : α} (h : j ≠ k) : va_up f k v j = f j := if_neg h
/-- the class's cells hold a state at r -/
def CS (G : xG) (S : xS) (M : xM) (r : Nat) : Prop := (∀ n, n < gT G → M.2.1 (r + 1) n = sC S n) ∧ (∀ n, n < gT G → M.2.1 (r + 2) n = nI (sL S n)) ∧ (∀ n, n < gT G → M.2.1 (r + 3) n = xo (sB S n)) ∧ (∀ n, n < gP G → M.2.1 (r + 4) n = sF S n) ∧ (∀ n, n < gP G → M.2.1 (r + 5) n = nI (sR S n)) ∧ (∀ n, n < gP G → M.2.1 (r + 6) n = xo (sH S n)) ∧ (∀ n, n < gP G → M.2.1 (r + 7) n = sP S n) ∧ (∀ n, n < gP G → M.2.1 (r + 8) n = sK S n) ∧ (∀ n, n < gD G → M.2.1 (r + 9) n = sO S n)
theorem csC {G : xG} {S : xS} {M : xM} {r : Nat} (h : CS G S M r) {n : Nat} (hn : n < gT G) : M.2.1 (r + 1) n = sC S n := h.1 n hn
theorem csL {G : xG} {S : xS} {M : xM} {r : Nat} (h : CS G S M r) {n : Nat} (hn : n < gT G) : M.2.1 (r + 2) n = nI (sL S n) := h.2.1 n hn
theorem csB {G : xG} {S : xS} {M : xM} {r : Nat} (h : CS G S M r) {n : Nat} (hn : n < gT G) : M.2.1 (r + 3) n = xo (sB S n) := h.2.2.1 n hn
theorem csF {G : xG} {S : xS} {M : xM} {r : Nat} (h : CS G S M r) {n : Nat} (hn : n < gP G) : M.2.1 (r + 4) n = sF S n := h.2.2.2.1 n hn
theorem csR {G : xG} {S : xS} {M : xM} {r : Nat} (h : CS G S M r) {n : Nat} (hn : n < gP G) : M.2.1 (r + 5) n = nI (sR S n) := h.2.2.2.2.1 n hn
theorem csH {G : xG} {S : xS} {M : xM} {r : Nat} (h : CS G S M r) {n : Nat} (hn : n < gP G) : M.2.1 (r + 6) n = xo (sH S n) := h.2.2.2.2.2.1 n hn
theorem csP {G : xG} {S : xS} {M : xM} {r : Nat} (h : CS G S M r) {n : Nat} (hn : n < gP G) : M.2.1 (r + 7) n = sP S n := h.2.2.2.2.2.2.1 n hn
theorem csK {G : xG} {S : xS} {M : xM} {r : Nat} (h : CS G S M r) {n : Nat} (hn : n < gP G) : M.2.1 (r + 8) n = sK S n := h.2.2.2.2.2.2.2.1 n hn
theorem csO {G : xG} {S : xS} {M : xM} {r : Nat} (h : CS G S M r) {n : Nat} (hn : n < gD G) : M.2.1 (r + 9) n = sO S n := h.2.2.2.2.2.2.2.2 n hn
theorem csuC {G : xG} {S : xS} {M : xM} {r : Nat} (h : CS G S M r) (j : Nat) (v : Int32) : CS G (uC S j v) (xa M (r + 1) (upd (M.2.1 (r + 1)) j (v))) r := by
  refine ⟨?_, ?_, ?_, ?_, ?_, ?_, ?_, ?_, ?_⟩
  · intro n hn
    show va_up M.2.1 (r + 1) _ (r + 1) n = va_up (sC S) j v n
    rw [up_s]
    by_cases e : n = j
    · subst e; rw [upd, if_pos rfl, up_s]
    · rw [upd, if_neg e, up_n e]; exact csC h hn
  · intro n hn
    show va_up M.2.1 (r + 1) _ (r + 2) n = _
    rw [up_n (by omega)]; exact csL h hn
  · intro n hn
    show va_up M.2.1 (r + 1) _ (r + 3) n = _
    rw [up_n (by omega)]; exact csB h hn
  · intro n hn
    show va_up M.2.1 (r + 1) _ (r + 4) n = _
    rw [up_n (by omega)]; exact csF h hn
  · intro n hn
    show va_up M.2.1 (r + 1) _ (r + 5) n = _
    rw [up_n (by omega)]; exact csR h hn
  · intro n hn
    show va_up M.2.1 (r + 1) _ (r + 6) n = _
    rw [up_n (by omega)]; exact csH h hn
  · intro n hn
    show va_up M.2.1 (r + 1) _ (r + 7) n = _
    rw [up_n (by omega)]; exact csP h hn
  · intro n hn
    show va_up M.2.1 (r + 1) _ (r + 8) n = _
    rw [up_n (by omega)]; exact csK h hn
  · intro n hn
    show va_up M.2.1 (r + 1) _ (r + 9) n = _
    rw [up_n (by omega)]; exact csO h hn
theorem csuL {G : xG} {S : xS} {M : xM} {r : Nat} (h : CS G S M r) (j : Nat) (v : Nat) : CS G (uL S j v) (xa M (r + 2) (upd (M.2.1 (r + 2)) j (nI (v)))) r := by
  refine ⟨?_, ?_, ?_, ?_, ?_, ?_, ?_, ?_, ?_⟩
  · intro n hn
    show va_up M.2.1 (r + 2) _ (r + 1) n = _
    rw [up_n (by omega)]; exact csC h hn
  · intro n hn
    show va_up M.2.1 (r + 2) _ (r + 2) n = nI (va_up (sL S) j v n)
    rw [up_s]
    by_cases e : n = j
    · subst e; rw [upd, if_pos rfl, up_s]
    · rw [upd, if_neg e, up_n e]; exact csL h hn
  · intro n hn
    show va_up M.2.1 (r + 2) _ (r + 3) n = _
    rw [up_n (by omega)]; exact csB h hn
  · intro n hn
    show va_up M.2.1 (r + 2) _ (r + 4) n = _
    rw [up_n (by omega)]; exact csF h hn
  · intro n hn
    show va_up M.2.1 (r + 2) _ (r + 5) n = _
    rw [up_n (by omega)]; exact csR h hn
  · intro n hn
    show va_up M.2.1 (r + 2) _ (r + 6) n = _
    rw [up_n (by omega)]; exact csH h hn
  · intro n hn
    show va_up M.2.1 (r + 2) _ (r + 7) n = _
    rw [up_n (by omega)]; exact csP h hn
  · intro n hn
    show va_up M.2.1 (r + 2) _ (r + 8) n = _
    rw [up_n (by omega)]; exact csK h hn
  · intro n hn
    show va_up M.2.1 (r + 2) _ (r + 9) n = _
    rw [up_n (by omega)]; exact csO h hn
theorem csuB {G : xG} {S : xS} {M : xM} {r : Nat} (h : CS G S M r) (j : Nat) (v : Option Nat) : CS G (uB S j v) (xa M (r + 3) (upd (M.2.1 (r + 3)) j (xo (v)))) r := by
  refine ⟨?_, ?_, ?_, ?_, ?_, ?_, ?_, ?_, ?_⟩
  · intro n hn
    show va_up M.2.1 (r + 3) _ (r + 1) n = _
    rw [up_n (by omega)]; exact csC h hn
  · intro n hn
    show va_up M.2.1 (r + 3) _ (r + 2) n = _
    rw [up_n (by omega)]; exact csL h hn
  · intro n hn
    show va_up M.2.1 (r + 3) _ (r + 3) n = xo (va_up (sB S) j v n)
    rw [up_s]
    by_cases e : n = j
    · subst e; rw [upd, if_pos rfl, up_s]
    · rw [upd, if_neg e, up_n e]; exact csB h hn
  · intro n hn
    show va_up M.2.1 (r + 3) _ (r + 4) n = _
    rw [up_n (by omega)]; exact csF h hn
  · intro n hn
    show va_up M.2.1 (r + 3) _ (r + 5) n = _
    rw [up_n (by omega)]; exact csR h hn
  · intro n hn
    show va_up M.2.1 (r + 3) _ (r + 6) n = _
    rw [up_n (by omega)]; exact csH h hn
  · intro n hn
    show va_up M.2.1 (r + 3) _ (r + 7) n = _
    rw [up_n (by omega)]; exact csP h hn
  · intro n hn
    show va_up M.2.1 (r + 3) _ (r + 8) n = _
    rw [up_n (by omega)]; exact csK h hn
  · intro n hn
    show va_up M.2.1 (r + 3) _ (r + 9) n = _
    rw [up_n (by omega)]; exact csO h hn
theorem csuF {G : xG} {S : xS} {M : xM} {r : Nat} (h : CS G S M r) (j : Nat) (v : Int32) : CS G (uF S j v) (xa M (r + 4) (upd (M.2.1 (r + 4)) j (v))) r := by
  refine ⟨?_, ?_, ?_, ?_, ?_, ?_, ?_, ?_, ?_⟩
  · intro n hn
    show va_up M.2.1 (r + 4) _ (r + 1) n = _
    rw [up_n (by omega)]; exact csC h hn
  · intro n hn
    show va_up M.2.1 (r + 4) _ (r + 2) n = _
    rw [up_n (by omega)]; exact csL h hn
  · intro n hn
    show va_up M.2.1 (r + 4) _ (r + 3) n = _
    rw [up_n (by omega)]; exact csB h hn
  · intro n hn
    show va_up M.2.1 (r + 4) _ (r + 4) n = va_up (sF S) j v n
    rw [up_s]
    by_cases e : n = j
    · subst e; rw [upd, if_pos rfl, up_s]
    · rw [upd, if_neg e, up_n e]; exact csF h hn
  · intro n hn
    show va_up M.2.1 (r + 4) _ (r + 5) n = _
    rw [up_n (by omega)]; exact csR h hn
  · intro n hn
    show va_up M.2.1 (r + 4) _ (r + 6) n = _
    rw [up_n (by omega)]; exact csH h hn
  · intro n hn
    show va_up M.2.1 (r + 4) _ (r + 7) n = _
    rw [up_n (by omega)]; exact csP h hn
  · intro n hn
    show va_up M.2.1 (r + 4) _ (r + 8) n = _
    rw [up_n (by omega)]; exact csK h hn
  · intro n hn
    show va_up M.2.1 (r + 4) _ (r + 9) n = _
    rw [up_n (by omega)]; exact csO h hn
theorem csuR {G : xG} {S : xS} {M : xM} {r : Nat} (h : CS G S M r) (j : Nat) (v : Nat) : CS G (uR S j v) (xa M (r + 5) (upd (M.2.1 (r + 5)) j (nI (v)))) r := by
  refine ⟨?_, ?_, ?_, ?_, ?_, ?_, ?_, ?_, ?_⟩
  · intro n hn
    show va_up M.2.1 (r + 5) _ (r + 1) n = _
    rw [up_n (by omega)]; exact csC h hn
  · intro n hn
    show va_up M.2.1 (r + 5) _ (r + 2) n = _
    rw [up_n (by omega)]; exact csL h hn
  · intro n hn
    show va_up M.2.1 (r + 5) _ (r + 3) n = _
    rw [up_n (by omega)]; exact csB h hn
  · intro n hn
    show va_up M.2.1 (r + 5) _ (r + 4) n = _
    rw [up_n (by omega)]; exact csF h hn
  · intro n hn
    show va_up M.2.1 (r + 5) _ (r + 5) n = nI (va_up (sR S) j v n)
    rw [up_s]
    by_cases e : n = j
    · subst e; rw [upd, if_pos rfl, up_s]
    · rw [upd, if_neg e, up_n e]; exact csR h hn
  · intro n hn
    show va_up M.2.1 (r + 5) _ (r + 6) n = _
    rw [up_n (by omega)]; exact csH h hn
  · intro n hn
    show va_up M.2.1 (r + 5) _ (r + 7) n = _
    rw [up_n (by omega)]; exact csP h hn
  · intro n hn
    show va_up M.2.1 (r + 5) _ (r + 8) n = _
    rw [up_n (by omega)]; exact csK h hn
  · intro n hn
    show va_up M.2.1 (r + 5) _ (r + 9) n = _
    rw [up_n (by omega)]; exact csO h hn
theorem csuH {G : xG} {S : xS} {M : xM} {r : Nat} (h : CS G S M r) (j : Nat) (v : Option Nat) : CS G (uH S j v) (xa M (r + 6) (upd (M.2.1 (r + 6)) j (xo (v)))) r := by
  refine ⟨?_, ?_, ?_, ?_, ?_, ?_, ?_, ?_, ?_⟩
  · intro n hn
    show va_up M.2.1 (r + 6) _ (r + 1) n = _
    rw [up_n (by omega)]; exact csC h hn
  · intro n hn
    show va_up M.2.1 (r + 6) _ (r + 2) n = _
    rw [up_n (by omega)]; exact csL h hn
  · intro n hn
    show va_up M.2.1 (r + 6) _ (r + 3) n = _
    rw [up_n (by omega)]; exact csB h hn
  · intro n hn
    show va_up M.2.1 (r + 6) _ (r + 4) n = _
    rw [up_n (by omega)]; exact csF h hn
  · intro n hn
    show va_up M.2.1 (r + 6) _ (r + 5) n = _
    rw [up_n (by omega)]; exact csR h hn
  · intro n hn
    show va_up M.2.1 (r + 6) _ (r + 6) n = xo (va_up (sH S) j v n)
    rw [up_s]
    by_cases e : n = j
    · subst e; rw [upd, if_pos rfl, up_s]
    · rw [upd, if_neg e, up_n e]; exact csH h hn
  · intro n hn
    show va_up M.2.1 (r + 6) _ (r + 7) n = _
    rw [up_n (by omega)]; exact csP h hn
  · intro n hn
    show va_up M.2.1 (r + 6) _ (r + 8) n = _
    rw [up_n (by omega)]; exact csK h hn
  · intro n hn
    show va_up M.2.1 (r + 6) _ (r + 9) n = _
    rw [up_n (by omega)]; exact csO h hn
theorem csuP {G : xG} {S : xS} {M : xM} {r : Nat} (h : CS G S M r) (j : Nat) (v : Int32) : CS G (uP S j v) (xa M (r + 7) (upd (M.2.1 (r + 7)) j (v))) r := by
  refine ⟨?_, ?_, ?_, ?_, ?_, ?_, ?_, ?_, ?_⟩
  · intro n hn
    show va_up M.2.1 (r + 7) _ (r + 1) n = _
    rw [up_n (by omega)]; exact csC h hn
  · intro n hn
    show va_up M.2.1 (r + 7) _ (r + 2) n = _
    rw [up_n (by omega)]; exact csL h hn
  · intro n hn
    show va_up M.2.1 (r + 7) _ (r + 3) n = _
    rw [up_n (by omega)]; exact csB h hn
  · intro n hn
    show va_up M.2.1 (r + 7) _ (r + 4) n = _
    rw [up_n (by omega)]; exact csF h hn
  · intro n hn
    show va_up M.2.1 (r + 7) _ (r + 5) n = _
    rw [up_n (by omega)]; exact csR h hn
  · intro n hn
    show va_up M.2.1 (r + 7) _ (r + 6) n = _
    rw [up_n (by omega)]; exact csH h hn
  · intro n hn
    show va_up M.2.1 (r + 7) _ (r + 7) n = va_up (sP S) j v n
    rw [up_s]
    by_cases e : n = j
    · subst e; rw [upd, if_pos rfl, up_s]
    · rw [upd, if_neg e, up_n e]; exact csP h hn
  · intro n hn
    show va_up M.2.1 (r + 7) _ (r + 8) n = _
    rw [up_n (by omega)]; exact csK h hn
  · intro n hn
    show va_up M.2.1 (r + 7) _ (r + 9) n = _
    rw [up_n (by omega)]; exact csO h hn
theorem csuK {G : xG} {S : xS} {M : xM} {r : Nat} (h : CS G S M r) (j : Nat) (v : Int32) : CS G (uK S j v) (xa M (r + 8) (upd (M.2.1 (r + 8)) j (v))) r := by
  refine ⟨?_, ?_, ?_, ?_, ?_, ?_, ?_, ?_, ?_⟩
  · intro n hn
    show va_up M.2.1 (r + 8) _ (r + 1) n = _
    rw [up_n (by omega)]; exact csC h hn
  · intro n hn
    show va_up M.2.1 (r + 8) _ (r + 2) n = _
    rw [up_n (by omega)]; exact csL h hn
  · intro n hn
    show va_up M.2.1 (r + 8) _ (r + 3) n = _
    rw [up_n (by omega)]; exact csB h hn
  · intro n hn
    show va_up M.2.1 (r + 8) _ (r + 4) n = _
    rw [up_n (by omega)]; exact csF h hn
  · intro n hn
    show va_up M.2.1 (r + 8) _ (r + 5) n = _
    rw [up_n (by omega)]; exact csR h hn
  · intro n hn
    show va_up M.2.1 (r + 8) _ (r + 6) n = _
    rw [up_n (by omega)]; exact csH h hn
  · intro n hn
    show va_up M.2.1 (r + 8) _ (r + 7) n = _
    rw [up_n (by omega)]; exact csP h hn
  · intro n hn
    show va_up M.2.1 (r + 8) _ (r + 8) n = va_up (sK S) j v n
    rw [up_s]
    by_cases e : n = j
    · subst e; rw [upd, if_pos rfl, up_s]
    · rw [upd, if_neg e, up_n e]; exact csK h hn
  · intro n hn
    show va_up M.2.1 (r + 8) _ (r + 9) n = _
    rw [up_n (by omega)]; exact csO h hn
theorem csuO {G : xG} {S : xS} {M : xM} {r : Nat} (h : CS G S M r) (j : Nat) (v : Int32) : CS G (uO S j v) (xa M (r + 9) (upd (M.2.1 (r + 9)) j (v))) r := by
  refine ⟨?_, ?_, ?_, ?_, ?_, ?_, ?_, ?_, ?_⟩
  · intro n hn
    show va_up M.2.1 (r + 9) _ (r + 1) n = _
    rw [up_n (by omega)]; exact csC h hn
  · intro n hn
    show va_up M.2.1 (r + 9) _ (r + 2) n = _
    rw [up_n (by omega)]; exact csL h hn
  · intro n hn
    show va_up M.2.1 (r + 9) _ (r + 3) n = _
    rw [up_n (by omega)]; exact csB h hn
  · intro n hn
    show va_up M.2.1 (r + 9) _ (r + 4) n = _
    rw [up_n (by omega)]; exact csF h hn
  · intro n hn
    show va_up M.2.1 (r + 9) _ (r + 5) n = _
    rw [up_n (by omega)]; exact csR h hn
  · intro n hn
    show va_up M.2.1 (r + 9) _ (r + 6) n = _
    rw [up_n (by omega)]; exact csH h hn
  · intro n hn
    show va_up M.2.1 (r + 9) _ (r + 7) n = _
    rw [up_n (by omega)]; exact csP h hn
  · intro n hn
    show va_up M.2.1 (r + 9) _ (r + 8) n = _
    rw [up_n (by omega)]; exact csK h hn
  · intro n hn
    show va_up M.2.1 (r + 9) _ (r + 9) n = va_up (sO S) j v n
    rw [up_s]
    by_cases e : n = j
    · subst e; rw [upd, if_pos rfl, up_s]
    · rw [upd, if_neg e, up_n e]; exact csO h hn
/-- a memory that is changed in the rows of one state alone -/
def Fr (r : Nat) (M M' : xM) : Prop := M'.1 = M.1 ∧ M'.2.2 = M.2.2 ∧ ∀ a, (a < r + 1 ∨ r + 9 < a) → M'.2.1 a = M.2.1 a
theorem Fr.rf {r : Nat} {M : xM} : Fr r M M := ⟨rfl, rfl, fun _ _ => rfl⟩
theorem Fr.tr {r : Nat} {M M1 M2 : xM} (h : Fr r M M1) (h2 : Fr r M1 M2) : Fr r M M2 := ⟨h2.1.trans h.1, h2.2.1.trans h.2.1, fun a ha => (h2.2.2 a ha).trans (h.2.2 a ha)⟩
theorem Fr.xa {r : Nat} {M : xM} {k : Nat} {f : Nat → Int32} (h1 : 1 ≤ k) (h9 : k ≤ 9) : Fr r M (xa M (r + k) f) := ⟨rfl, rfl, fun a ha => up_n (by omega)⟩
theorem CS.fr {G : xG} {S : xS} {M M' : xM} {r q : Nat} (h : CS G S M r) (f : Fr q M M') (hq : r + 9 < q + 1 ∨ q + 9 < r + 1) : CS G S M' r := by
  refine ⟨?_, ?_, ?_, ?_, ?_, ?_, ?_, ?_, ?_⟩
  · exact fun n hn => (congrFun (f.2.2 (r + 1) (by omega)) n).trans (csC h hn)
  · exact fun n hn => (congrFun (f.2.2 (r + 2) (by omega)) n).trans (csL h hn)
  · exact fun n hn => (congrFun (f.2.2 (r + 3) (by omega)) n).trans (csB h hn)
  · exact fun n hn => (congrFun (f.2.2 (r + 4) (by omega)) n).trans (csF h hn)
  · exact fun n hn => (congrFun (f.2.2 (r + 5) (by omega)) n).trans (csR h hn)
  · exact fun n hn => (congrFun (f.2.2 (r + 6) (by omega)) n).trans (csH h hn)
  · exact fun n hn => (congrFun (f.2.2 (r + 7) (by omega)) n).trans (csP h hn)
  · exact fun n hn => (congrFun (f.2.2 (r + 8) (by omega)) n).trans (csK h hn)
  · exact fun n hn => (congrFun (f.2.2 (r + 9) (by omega)) n).trans (csO h hn)
/-! the ground in the class's cells -/
/-- the cell next to k in direction d -/
def mnext (G : xG) (k d : Nat) : Option Nat := match d with
  | 0 => if k / gw G = 0 then none else some (k - gw G)
  | 1 => if k % gw G + 1 < gw G then some (k + 1) else none
  | 2 => if k / gw G + 1 < gh G then some (k + gw G) else none
  | _ => if k % gw G = 0 then none else some (k - 1)
def CG (G : xG) (M : xM) : Prop := M.1 1 0 = nI (gw G) ∧ M.1 1 1 = nI (gh G) ∧ M.1 1 2 = nI (gP G) ∧ M.1 1 3 = nI (gN G) ∧ M.1 1 4 = nI (gD G) ∧ M.1 1 5 = nI (gT G) ∧ (∀ k, k < gN G → M.2.1 2 k = nI (gmap G k)) ∧ (∀ k, k < gN G → gmap G k = 2 ∨ gmap G k = 3 → M.2.1 3 k = nI (glink G k)) ∧ (∀ k, k < gN G → M.2.1 4 k = nI (k % gw G)) ∧ (∀ k, k < gN G → M.2.1 5 k = nI (k / gw G)) ∧ (∀ k, k < gN G → ∀ d, d < 4 → M.2.1 6 (k * 4 + d) = xo (mnext G k d)) ∧ (∀ d, d < gD G → M.2.1 7 d = nI (gword G d)) ∧ (∀ n, n < gT G → M.2.1 8 n = nI (gkind G n))
theorem CG.keep {G : xG} {M M' : xM} (h : CG G M) (h1 : M'.1 1 = M.1 1) (h2 : ∀ a, a < 9 → M'.2.1 a = M.2.1 a) : CG G M' := by
  obtain ⟨q0, q1, q2, q3, q4, q5, q6, q7, q8, q9, q10, q11, q12⟩ := h
  refine ⟨by rw [h1]; exact q0, by rw [h1]; exact q1, by rw [h1]; exact q2, by rw [h1]; exact q3, by rw [h1]; exact q4, by rw [h1]; exact q5, ?_, ?_, ?_, ?_, ?_, ?_, ?_⟩
  · rw [h2 2 (by omega)]; exact q6
  · rw [h2 3 (by omega)]; exact q7
  · rw [h2 4 (by omega)]; exact q8
  · rw [h2 5 (by omega)]; exact q9
  · rw [h2 6 (by omega)]; exact q10
  · rw [h2 7 (by omega)]; exact q11
  · rw [h2 8 (by omega)]; exact q12
theorem isSt.ge {r : Nat} (h : isSt r) : 61 ≤ r ∧ r ≤ 231 := by obtain ⟨j, hj, rfl⟩ := h; omega
theorem CG.fr {G : xG} {M M' : xM} {r : Nat} (h : CG G M) (hr : isSt r) (f : Fr r M M') : CG G M' := h.keep (by rw [f.1]) (fun a ha => f.2.2 a (by have := hr.ge; omega))
theorem cg_w {G : xG} {M : xM} (h : CG G M) : M.1 1 0 = nI (gw G) := h.1
theorem cg_h {G : xG} {M : xM} (h : CG G M) : M.1 1 1 = nI (gh G) := h.2.1
theorem cg_P {G : xG} {M : xM} (h : CG G M) : M.1 1 2 = nI (gP G) := h.2.2.1
theorem cg_N {G : xG} {M : xM} (h : CG G M) : M.1 1 3 = nI (gN G) := h.2.2.2.1
theorem cg_D {G : xG} {M : xM} (h : CG G M) : M.1 1 4 = nI (gD G) := h.2.2.2.2.1
theorem cg_T {G : xG} {M : xM} (h : CG G M) : M.1 1 5 = nI (gT G) := h.2.2.2.2.2.1
theorem cg_map {G : xG} {M : xM} (h : CG G M) {k : Nat} (hk : k < gN G) : M.2.1 2 k = nI (gmap G k) := h.2.2.2.2.2.2.1 k hk
theorem cg_link {G : xG} {M : xM} (h : CG G M) {k : Nat} (hk : k < gN G) (hd : gmap G k = 2 ∨ gmap G k = 3) : M.2.1 3 k = nI (glink G k) := h.2.2.2.2.2.2.2.1 k hk hd
theorem cg_col {G : xG} {M : xM} (h : CG G M) {k : Nat} (hk : k < gN G) : M.2.1 4 k = nI (k % gw G) := h.2.2.2.2.2.2.2.2.1 k hk
theorem cg_row {G : xG} {M : xM} (h : CG G M) {k : Nat} (hk : k < gN G) : M.2.1 5 k = nI (k / gw G) := h.2.2.2.2.2.2.2.2.2.1 k hk
theorem cg_nx {G : xG} {M : xM} (h : CG G M) {k d : Nat} (hk : k < gN G) (hd : d < 4) : M.2.1 6 (k * 4 + d) = xo (mnext G k d) := h.2.2.2.2.2.2.2.2.2.2.1 k hk d hd
theorem cg_word {G : xG} {M : xM} (h : CG G M) {d : Nat} (hd : d < gD G) : M.2.1 7 d = nI (gword G d) := h.2.2.2.2.2.2.2.2.2.2.2.1 d hd
theorem cg_kind {G : xG} {M : xM} (h : CG G M) {n : Nat} (hn : n < gT G) : M.2.1 8 n = nI (gkind G n) := h.2.2.2.2.2.2.2.2.2.2.2.2 n hn
/-! what is done in a tick -/
def mshut (G : xG) (S : xS) (k : Nat) : Bool := decide (gmap G k = 2) && decide (sO S (glink G k) = 0)
def mbars (G : xG) (S : xS) (k : Nat) : Bool := decide (gmap G k = 1) || mshut G S k
/-- the first thing from n on, of f, that stands in cell k -/
def mstF (c : Nat → Int32) (l : Nat → Nat) (k : Int32) : Nat → Nat → Option Nat
  | _, 0 => none
  | n, f + 1 => if c n = k ∧ 0 < l n then some n else mstF c l k (n + 1) f
def mstand (G : xG) (S : xS) (k : Nat) : Option Nat := mstF (sC S) (sL S) (nI k) 0 (gT G)
theorem mstF_lt {c : Nat → Int32} {l : Nat → Nat} {k : Int32} : ∀ (f n m : Nat), mstF c l k n f = some m → n ≤ m ∧ m < n + f ∧ c m = k ∧ 0 < l m
  | 0, n, m, h => by simp [mstF] at h
  | f + 1, n, m, h => by
    rw [mstF] at h
    split at h
    · cases h
      rename_i q
      exact ⟨Nat.le_refl _, by omega, q.1, q.2⟩
    · obtain ⟨h1, h2, h3⟩ := mstF_lt f (n + 1) m h
      exact ⟨by omega, by omega, h3⟩
theorem mstand_lt {G : xG} {S : xS} {k m : Nat} (h : mstand G S k = some m) : m < gT G ∧ sC S m = nI k ∧ 0 < sL S m := by
  obtain ⟨-, h2, h3⟩ := mstF_lt _ _ _ h
  exact ⟨by omega, h3⟩
def mfree (G : xG) (S : xS) (o : Option Nat) : Bool := match o with
  | none => false
  | some k => !mbars G S k && (mstand G S k).isNone
def mcar (G : xG) (S : xS) (p q : Nat) : Bool := match sH S p with
  | none => false
  | some n => decide (gkind G n = q)
def mlet (S : xS) (p : Nat) (c : Int32) : xS := match sH S p with
  | none => S
  | some n => uC (uB (uH S p none) n none) n c
def mhurt (G : xG) (S : xS) (n loss : Nat) : xS := if sL S n - loss = 0 ∧ n < gP G then mlet (uL S n (sL S n - loss)) n (sC S n) else uL S n (sL S n - loss)
/-- what always holds of a state -/
def wS (G : xG) (S : xS) : Prop := (∀ n, n < gT G → gkind G n ≤ 2 → ∃ k, k < gN G ∧ sC S n = nI k) ∧ (∀ n, n < gT G → sL S n ≤ 5) ∧ (∀ n, n < gT G → 0 < sL S n → gkind G n ≤ 2) ∧ (∀ p, p < gP G → sR S p ≤ 3) ∧ (∀ p, p < gP G → ∀ j, sH S p = some j → j < gT G ∧ 5 ≤ gkind G j)
