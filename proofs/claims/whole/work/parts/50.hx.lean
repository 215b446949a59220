/-! numbers from outside: an index, or none -/
def xix (x : Int32) (n : Nat) : Option Nat := if ¬ x < 0 ∧ x < nI n then some x.toNatClampNeg else none
theorem xix_nI {k n : Nat} (hk : k < n) (hn : n < 2 ^ 31) : xix (nI k) n = some k := by
  unfold xix
  rw [if_pos ⟨nI_pos (by omega), nI_lt hk hn⟩, nI_clamp (by omega)]
theorem xix_no {x : Int32} {n : Nat} (h : x < 0 ∨ nI n ≤ x) : xix x n = none := by
  unfold xix
  refine if_neg (fun q => ?_)
  rcases h with h | h
  · exact q.1 h
  · exact absurd q.2 (Int32.not_lt.mpr h)
theorem xix_cases (x : Int32) {n : Nat} (hn : n < 2 ^ 31) : (xix x n = none ∧ (x < 0 ∨ nI n ≤ x)) ∨ ∃ k, k < n ∧ x = nI k ∧ xix x n = some k := by
  rcases pk_ix x hn with h | h | ⟨k, h1, h2⟩
  · exact Or.inl ⟨xix_no (Or.inl h), Or.inl h⟩
  · exact Or.inl ⟨xix_no (Or.inr h), Or.inr h⟩
  · exact Or.inr ⟨k, h1, h2, by rw [h2]; exact xix_nI h1 hn⟩
/-- a number of lo .. hi -/
def xrg (x : Int32) (lo hi : Nat) : Option Nat := if ¬ x < nI lo ∧ ¬ nI hi < x then some x.toNatClampNeg else none
theorem xrg_nI {k lo hi : Nat} (h1 : lo ≤ k) (h2 : k ≤ hi) (hn : hi < 2 ^ 31) : xrg (nI k) lo hi = some k := by
  unfold xrg
  rw [if_pos ⟨nI_nlt h1 (by omega), nI_nlt h2 (by omega)⟩, nI_clamp (by omega)]
theorem xrg_no {x : Int32} {lo hi : Nat} (h : x < nI lo ∨ nI hi < x) : xrg x lo hi = none := if_neg (fun q => by
  rcases h with h | h
  · exact q.1 h
  · exact q.2 h)
theorem xrg_cases (x : Int32) {lo hi : Nat} (hl : lo < 2 ^ 31) (hn : hi < 2 ^ 31) : (xrg x lo hi = none ∧ (x < nI lo ∨ nI hi < x)) ∨ ∃ k, lo ≤ k ∧ k ≤ hi ∧ x = nI k ∧ xrg x lo hi = some k := by
  by_cases h1 : x < nI lo
  · exact Or.inl ⟨xrg_no (Or.inl h1), Or.inl h1⟩
  by_cases h2 : nI hi < x
  · exact Or.inl ⟨xrg_no (Or.inr h2), Or.inr h2⟩
  have h0 : ¬ x < 0 := fun q => h1 (Int32.lt_of_lt_of_le q (nI_pos' hl))
  obtain ⟨j, hj, rfl⟩ := nI_of h0
  have a1 : lo ≤ j := by
    rw [nI_ltI hj hl] at h1
    omega
  have a2 : j ≤ hi := by
    rw [nI_ltI hn hj] at h2
    omega
  exact Or.inr ⟨j, a1, a2, rfl, xrg_nI a1 a2 hn⟩
/-! the states and the hits of a game, by its ground, its acts and its first state -/
def Zf (G : xG) (A : Nat → Nat) (S : xS) : Nat → xS
  | 0 => S
  | t + 1 => mtick G A t (Zf G A S t)
def Hf (G : xG) (A : Nat → Nat) (S : xS) (i : Nat) : Nat := (mbodies G A (i / 4) (Zf G A S (i / 4)) (fun _ => 0)).2 i
def Hx (G : xG) (A : Nat → Nat) (S : xS) (now i : Nat) : Nat := if i < 4 * now then Hf G A S i else 0
theorem wS_Zf {G : xG} {A : Nat → Nat} {S : xS} (hW : wG G) (h : wS G S) : ∀ t, wS G (Zf G A S t)
  | 0 => h
  | t + 1 => wS_tick hW (wS_Zf hW h t)
theorem mbL_H {G : xG} {A : Nat → Nat} {t j : Nat} : ∀ (f i : Nat) (S : xS) (H K : Nat → Nat), (H j = K j ∨ ∃ i', i ≤ i' ∧ i' < i + f ∧ j = t * 4 + (t + i') % gP G) → (mbL G A t i f (S, H)).2 j = (mbL G A t i f (S, K)).2 j
  | 0, i, S, H, K, h => by
    rcases h with h | ⟨i', h1, h2, -⟩
    · exact h
    · omega
  | f + 1, i, S, H, K, h => by
    show (mbL G A t (i + 1) f (mbS G A t i (S, H))).2 j = (mbL G A t (i + 1) f (mbS G A t i (S, K))).2 j
    refine mbL_H f (i + 1) _ _ _ ?_
    by_cases e : j = t * 4 + (t + i) % gP G
    · exact Or.inl (by rw [e]; exact up_s.trans up_s.symm)
    · rcases h with h | ⟨i', h1, h2, h3⟩
      · exact Or.inl (by rw [up_n e, up_n e]; exact h)
      · refine Or.inr ⟨i', ?_, by omega, h3⟩
        by_cases e2 : i' = i
        · exact absurd (by rw [← e2]; exact h3) e
        · omega
theorem mbL_out {G : xG} {A : Nat → Nat} {t j : Nat} : ∀ (f i : Nat) (q : xS × (Nat → Nat)), (∀ i', ¬ j = t * 4 + (t + i') % gP G) → (mbL G A t i f q).2 j = q.2 j
  | 0, i, q, h => rfl
  | f + 1, i, q, h => by
    show (mbL G A t (i + 1) f (mbS G A t i q)).2 j = q.2 j
    rw [mbL_out f (i + 1) _ h]
    exact up_n (h i)
theorem mod_hit {t P q : Nat} (h1 : 1 ≤ P) (h4 : P ≤ 4) (hq : q < P) : ∃ i, i < P ∧ (t + i) % P = q := by
  refine ⟨(q + P - t % P) % P, Nat.mod_lt _ (by omega), ?_⟩
  rcases (show P = 1 ∨ P = 2 ∨ P = 3 ∨ P = 4 by omega) with rfl | rfl | rfl | rfl <;> omega
/-- the hits of a tick: its own places alone, whatever stood there -/
theorem mtH_at {G : xG} {A : Nat → Nat} {S : xS} {H : Nat → Nat} {t i : Nat} (hW : wG G) (hH : gP G ≤ i % 4 → H i = 0) : mtH G A t S H i = if i / 4 = t then (mbodies G A t S (fun _ => 0)).2 i else H i := by
  have b5 : 1 ≤ gP G := hW.2.2.2.2.1
  have b6 : gP G ≤ 4 := hW.2.2.2.2.2.1
  unfold mtH mbodies
  by_cases e : i / 4 = t
  · rw [if_pos e]
    refine mbL_H _ _ _ _ _ ?_
    by_cases q : i % 4 < gP G
    · obtain ⟨j, j1, j2⟩ := mod_hit (t := t) b5 b6 q
      exact Or.inr ⟨j, by omega, by omega, by omega⟩
    · exact Or.inl (hH (by omega))
  · rw [if_neg e]
    refine mbL_out _ _ _ (fun i' z => e ?_)
    have := Nat.mod_lt (t + i') (show 0 < gP G by omega)
    omega
theorem Hf_P {G : xG} {A : Nat → Nat} {S : xS} {i : Nat} (hW : wG G) (h : gP G ≤ i % 4) : Hf G A S i = 0 := by
  have b5 : 1 ≤ gP G := hW.2.2.2.2.1
  have b6 : gP G ≤ 4 := hW.2.2.2.2.2.1
  unfold Hf mbodies
  refine mbL_out _ _ _ (fun i' z => ?_)
  have := Nat.mod_lt (i / 4 + i') (show 0 < gP G by omega)
  omega
theorem mbL_le {G : xG} {A : Nat → Nat} {t : Nat} (hW : wG G) : ∀ (f i : Nat) (q : xS × (Nat → Nat)), wS G q.1 → (∀ j, q.2 j ≤ 16) → ∀ j, (mbL G A t i f q).2 j ≤ 16
  | 0, i, q, h, hb, j => hb j
  | f + 1, i, q, h, hb, j => by
    have b5 : 1 ≤ gP G := hW.2.2.2.2.1
    have hp : (t + i) % gP G < gP G := Nat.mod_lt _ (by omega)
    refine mbL_le hW f (i + 1) (mbS G A t i q) (wS_act hW h hp) (fun k => ?_) j
    show va_up q.2 _ _ k ≤ 16
    by_cases e : k = t * 4 + (t + i) % gP G
    · rw [e, up_s]; exact mact_hit hW h hp
    · rw [up_n e]; exact hb k
theorem Hf_le {G : xG} {A : Nat → Nat} {S : xS} (hW : wG G) (h : wS G S) (i : Nat) : Hf G A S i ≤ 16 := mbL_le hW _ _ _ (wS_Zf hW h _) (fun _ => Nat.zero_le _) i
theorem Hx_le {G : xG} {A : Nat → Nat} {S : xS} {now : Nat} (hW : wG G) (h : wS G S) (i : Nat) : Hx G A S now i ≤ 16 := by
  unfold Hx
  split
  · exact Hf_le hW h i
  · omega
theorem Hx_P {G : xG} {A : Nat → Nat} {S : xS} {now i : Nat} (hW : wG G) (h : gP G ≤ i % 4) : Hx G A S now i = 0 := by
  unfold Hx
  split
  · exact Hf_P hW h
  · rfl
/-- the hits behind the work of ticks t .. t + f - 1 -/
theorem mwH_at {G : xG} {A : Nat → Nat} {S : xS} (hW : wG G) : ∀ (f t : Nat) (H : Nat → Nat), (∀ i, gP G ≤ i % 4 → H i = 0) → ∀ i, mwH G A (Zf G A S) t f H i = if 4 * t ≤ i ∧ i < 4 * (t + f) then Hf G A S i else H i
  | 0, t, H, h, i => by rw [if_neg (by omega)]; rfl
  | f + 1, t, H, h, i => by
    show mwH G A (Zf G A S) (t + 1) f (mtH G A t (Zf G A S t) H) i = _
    rw [mwH_at hW f (t + 1) _ (fun k hk => by
      rw [mtH_at hW (fun _ => h k hk)]
      split
      · rename_i e
        have := Hf_P (G := G) (A := A) (S := S) hW hk
        unfold Hf at this
        rw [e] at this
        exact this
      · exact h k hk) i]
    by_cases q : i / 4 = t
    · rw [if_neg (by omega), if_pos (by omega), mtH_at hW (h i), if_pos q]
      unfold Hf
      rw [q]
    · rw [mtH_at hW (h i), if_neg q]
      split <;> split <;> first | rfl | omega
/-- acts that are the same below t make the same states up to t -/
theorem mbL_A {G : xG} {A B : Nat → Nat} {t : Nat} (h : ∀ i, i / 4 = t → A i = B i) (hP : 1 ≤ gP G ∧ gP G ≤ 4) : ∀ (f i : Nat) (q : xS × (Nat → Nat)), mbL G A t i f q = mbL G B t i f q
  | 0, i, q => rfl
  | f + 1, i, q => by
    have e : mbS G A t i q = mbS G B t i q := by
      unfold mbS
      have := Nat.mod_lt (t + i) (show 0 < gP G by omega)
      rw [h (t * 4 + (t + i) % gP G) (by omega)]
    show mbL G A t (i + 1) f (mbS G A t i q) = mbL G B t (i + 1) f (mbS G B t i q)
    rw [e]
    exact mbL_A h hP f (i + 1) _
theorem Zf_A {G : xG} {A B : Nat → Nat} {S : xS} (hW : wG G) : ∀ (t : Nat), (∀ i, i < 4 * t → A i = B i) → Zf G A S t = Zf G B S t
  | 0, h => rfl
  | t + 1, h => by
    show mtick G A t (Zf G A S t) = mtick G B t (Zf G B S t)
    rw [Zf_A hW t (fun i hi => h i (by omega))]
    unfold mtick mbodies
    rw [mbL_A (fun i hi => h i (by omega)) ⟨hW.2.2.2.2.1, hW.2.2.2.2.2.1⟩]
theorem Hf_A {G : xG} {A B : Nat → Nat} {S : xS} {t i : Nat} (hW : wG G) (h : ∀ i, i < 4 * t → A i = B i) (hi : i < 4 * t) : Hf G A S i = Hf G B S i := by
  unfold Hf mbodies
  rw [Zf_A hW (i / 4) (fun j hj => h j (by omega)), mbL_A (fun j hj => h j (by omega)) ⟨hW.2.2.2.2.1, hW.2.2.2.2.2.1⟩]
/-- all worked anew: nothing changes -/
theorem Hx_all {G : xG} {A : Nat → Nat} {S : xS} {now t : Nat} (hW : wG G) (ht : t ≤ now) : mwH G A (Zf G A S) 0 t (Hx G A S now) = Hx G A S now := by
  funext i
  rw [mwH_at hW t 0 _ (fun k hk => Hx_P hW hk) i]
  split
  · unfold Hx; rw [if_pos (by omega)]
  · rfl
theorem Hx_step {G : xG} {A : Nat → Nat} {S : xS} {now : Nat} (hW : wG G) : mwH G A (Zf G A S) now 1 (Hx G A S now) = Hx G A S (now + 1) := by
  funext i
  rw [mwH_at hW 1 now _ (fun k hk => Hx_P hW hk) i]
  unfold Hx
  split <;> split <;> first | rfl | omega | (split <;> first | rfl | omega)
theorem Hx_back {G : xG} {A B : Nat → Nat} {S : xS} {now t f : Nat} (hW : wG G) (h : ∀ i, i < 4 * t → A i = B i) (hf : t + f = now) : mwH G B (Zf G B S) t f (Hx G A S now) = Hx G B S now := by
  funext i
  rw [mwH_at hW f t _ (fun k hk => Hx_P hW hk) i]
  unfold Hx
  by_cases q : i < 4 * now
  · rw [if_pos q, if_pos q]
    by_cases q2 : i < 4 * t
    · rw [if_neg (by omega)]; exact Hf_A hW h q2
    · rw [if_pos (by omega)]
  · rw [if_neg q, if_neg q, if_neg (by omega)]
/-- hits of settled ticks -/
def mfair (H : Nat → Nat) (L : Nat → Bool) (p : Nat) (b : Bool) : Nat → Nat
  | 0 => 0
  | t + 1 => mfair H L p b t + (if 0 < H (4 * t + p) ∧ L (4 * t + p) = b then 1 else 0)
theorem mfair_le {H : Nat → Nat} {L : Nat → Bool} {p : Nat} {b : Bool} : ∀ t, mfair H L p b t ≤ t
  | 0 => Nat.le_refl _
  | t + 1 => by
    have := mfair_le (H := H) (L := L) (p := p) (b := b) t
    rw [mfair]
    split <;> omega
theorem mfair_A {H K : Nat → Nat} {L O : Nat → Bool} {p : Nat} {b : Bool} (hp : p < 4) : ∀ t, (∀ i, i < 4 * t → H i = K i ∧ L i = O i) → mfair H L p b t = mfair K O p b t
  | 0, h => rfl
  | t + 1, h => by
    rw [mfair, mfair, mfair_A hp t (fun i hi => h i (by omega)), (h (4 * t + p) (by omega)).1, (h (4 * t + p) (by omega)).2]
/-- how many acts there are -/
def mcnt (A : Nat → Nat) : Nat → Nat
  | 0 => 0
  | n + 1 => mcnt A n + (if A n = 4096 then 0 else 1)
theorem mcnt_le {A : Nat → Nat} : ∀ n, mcnt A n ≤ n
  | 0 => Nat.le_refl _
  | n + 1 => by
    have := mcnt_le (A := A) n
    rw [mcnt]
    split <;> omega
theorem mcnt_no {A : Nat → Nat} {k v : Nat} : ∀ n, n ≤ k → mcnt (va_up A k v) n = mcnt A n
  | 0, _ => rfl
  | n + 1, h => by rw [mcnt, mcnt, mcnt_no n (by omega), up_n (by omega)]
theorem mcnt_up {A : Nat → Nat} {k v : Nat} (h1 : A k = 4096) (h2 : ¬ v = 4096) : ∀ n, k < n → mcnt (va_up A k v) n = mcnt A n + 1
  | 0, h => by omega
  | n + 1, h => by
    rw [mcnt, mcnt]
    by_cases e : n = k
    · subst e
      rw [mcnt_no n (Nat.le_refl _), up_s, if_neg h2, if_pos h1]
    · rw [mcnt_up h1 h2 n (by omega), up_n e]
      omega
theorem mcnt_0 {A : Nat → Nat} : ∀ n, mcnt A n = 0 ↔ ∀ i, i < n → A i = 4096
  | 0 => ⟨fun _ i hi => by omega, fun _ => rfl⟩
  | n + 1 => by
    rw [mcnt]
    constructor
    · intro h i hi
      have h0 : mcnt A n = 0 := by omega
      by_cases e : i = n
      · subst e
        by_cases q : A i = 4096
        · exact q
        · rw [if_neg q] at h; omega
      · exact (mcnt_0 n).mp h0 i (by omega)
    · intro h
      rw [(mcnt_0 n).mpr (fun i hi => h i (by omega)), if_pos (h n (by omega))]
/-! the host: ground, first state, now, late, risk, acts, which came late, next numbers, letters taken, letters refused, refusals of the host, goings back, the watch, the tapes -/
abbrev xT : Type := Nat × Nat × Nat × (Nat → Int64) × (Nat → Int32)
abbrev xE2 : Type := Nat × Nat × Nat × Nat × (Nat → Int32)
abbrev xX : Type := xG × xS × Nat × Nat × Nat × (Nat → Nat) × (Nat → Bool) × (Nat → Nat) × Nat × Int32 × Int32 × xE2 × xw × (Nat → xT)
def wT (q : xT) : Prop := q.1 ≤ 5 ∧ q.2.1 ≤ 100 ∧ q.2.2.1 ≤ 100 ∧ (1 ≤ q.1 ∧ q.1 ≤ 4 → q.2.1 ≤ 80)
def wX (X : xX) : Prop := match X with
  | (G, S0, now, late, risk, A, _, sq, nl, _, _, lg, w, tp) => wG G ∧ wS G S0 ∧ now ≤ 500 ∧ late ≤ 8 ∧ risk ≤ 1048576 ∧ wA A ∧ (∀ p, sq p < 256) ∧ nl = mcnt A 2000 ∧ lg.2.2.1 ≤ 8 ∧ lg.2.2.2.1 ≤ 32 * nl ∧ ww w (now - late) ∧ (∀ d, wT (tp d)) ∧ (∀ n, sO S0 n = 0) ∧ ∀ n, sB S0 n = none
/-! in the class's cells -/
def sC2 (lo hi : Nat) (M M2 : xM) : Prop := ∀ a, lo ≤ a → a ≤ hi → M2.1 a = M.1 a ∧ M2.2.1 a = M.2.1 a ∧ M2.2.2 a = M.2.2 a
theorem sC2.sub {lo hi l2 h2 : Nat} {M M2 : xM} (h : sC2 lo hi M M2) (a : lo ≤ l2) (b : h2 ≤ hi) : sC2 l2 h2 M M2 := fun x q1 q2 => h x (by omega) (by omega)
theorem sC2.rf {lo hi : Nat} {M : xM} : sC2 lo hi M M := fun _ _ _ => ⟨rfl, rfl, rfl⟩
theorem sC2.tr {lo hi : Nat} {M M1 M2 : xM} (h : sC2 lo hi M M1) (h2 : sC2 lo hi M1 M2) : sC2 lo hi M M2 := fun x q1 q2 => ⟨(h2 x q1 q2).1.trans (h x q1 q2).1, (h2 x q1 q2).2.1.trans (h x q1 q2).2.1, (h2 x q1 q2).2.2.trans (h x q1 q2).2.2⟩
def KF (G : xG) (S0 : xS) (M : xM) : Prop := CS G S0 M 231 ∧ (∀ n, n < 8 → M.2.1 240 n = 0) ∧ ∀ n, n < 16 → M.2.1 234 n = xo none
def KR (G : xG) (Z : Nat → xS) (now : Nat) (M : xM) : Prop := CR G Z M (now - 15) now ∧ (now = 0 → ∀ n, n < 8 → M.2.1 70 n = 0)
def KE (lg : xE2) (M : xM) : Prop := M.1 17 0 = nI lg.1 ∧ M.1 17 1 = nI lg.2.1 ∧ M.1 17 2 = nI lg.2.2.1 ∧ M.1 17 3 = nI lg.2.2.2.1 ∧ ∀ i, i < 4 * min lg.2.2.2.1 64 → M.2.1 18 i = lg.2.2.2.2 i
def KS (sq : Nat → Nat) (M : xM) : Prop := ∀ p, p < 4 → M.2.1 22 p = nI (sq p)
def KWp (w : xw) (f : Bool → Nat) (p : Nat) (M : xM) : Prop := CO (w.1 (2 * p)) M (23 + 5 * p + 1) ∧ CO (w.1 (2 * p + 1)) M (23 + 5 * p + 3) ∧ M.1 (23 + 5 * p) 2 = nI (f false) ∧ M.1 (23 + 5 * p) 3 = nI (f true) ∧ M.1 (23 + 5 * p) 4 = xo (w.2.1 p) ∧ M.1 (23 + 5 * p) 5 = xo (w.2.2 p)
def KW (w : xw) (f : Nat → Bool → Nat) (M : xM) : Prop := ∀ p, p < 4 → KWp w (f p) p M
def CT (q : xT) (M : xM) (r : Nat) : Prop := M.1 r 0 = nI q.1 ∧ M.1 r 1 = nI q.2.1 ∧ M.1 r 2 = nI q.2.2.1 ∧ (∀ i, i < 80 → M.2.2 (r + 1) i = q.2.2.2.1 i) ∧ ∀ i, i < 100 → M.2.1 (r + 2) i = q.2.2.2.2 i
def KT (tp : Nat → xT) (M : xM) : Prop := ∀ d, d < 6 → CT (tp d) M (43 + 3 * d)
def KM (now late risk nl : Nat) (rf hr : Int32) (M : xM) : Prop := M.1 0 9 = nI now ∧ M.1 0 10 = nI late ∧ M.1 0 11 = nI risk ∧ M.1 0 12 = nI nl ∧ M.1 0 13 = rf ∧ M.1 0 14 = hr
def RepC (X : xX) (M : xM) : Prop := match X with
  | (G, S0, now, late, risk, A, L, sq, nl, rf, hr, lg, w, tp) => CG G M ∧ KF G S0 M ∧ KR G (Zf G A S0) now M ∧ CLg A (Hx G A S0 now) L M ∧ KE lg M ∧ KS sq M ∧ KW w (fun p b => mfair (Hx G A S0 now) L p b (now - late)) M ∧ KT tp M ∧ KM now late risk nl rf hr M
theorem CG.sm {G : xG} {M M2 : xM} (h : CG G M) (f : sC2 1 8 M M2) : CG G M2 := by
  obtain ⟨q0, q1, q2, q3, q4, q5, q6, q7, q8, q9, q10, q11, q12⟩ := h
  have h1 := (f 1 (by omega) (by omega)).1
  refine ⟨by rw [h1]; exact q0, by rw [h1]; exact q1, by rw [h1]; exact q2, by rw [h1]; exact q3, by rw [h1]; exact q4, by rw [h1]; exact q5, ?_, ?_, ?_, ?_, ?_, ?_, ?_⟩
  · rw [(f 2 (by omega) (by omega)).2.1]; exact q6
  · rw [(f 3 (by omega) (by omega)).2.1]; exact q7
  · rw [(f 4 (by omega) (by omega)).2.1]; exact q8
  · rw [(f 5 (by omega) (by omega)).2.1]; exact q9
  · rw [(f 6 (by omega) (by omega)).2.1]; exact q10
  · rw [(f 7 (by omega) (by omega)).2.1]; exact q11
  · rw [(f 8 (by omega) (by omega)).2.1]; exact q12
theorem CS.sm {G : xG} {S : xS} {M M2 : xM} {r : Nat} (h : CS G S M r) (f : sC2 (r + 1) (r + 9) M M2) : CS G S M2 r := by
  refine ⟨?_, ?_, ?_, ?_, ?_, ?_, ?_, ?_, ?_⟩
  · rw [(f (r + 1) (by omega) (by omega)).2.1]; exact h.1
  · rw [(f (r + 2) (by omega) (by omega)).2.1]; exact h.2.1
  · rw [(f (r + 3) (by omega) (by omega)).2.1]; exact h.2.2.1
  · rw [(f (r + 4) (by omega) (by omega)).2.1]; exact h.2.2.2.1
  · rw [(f (r + 5) (by omega) (by omega)).2.1]; exact h.2.2.2.2.1
  · rw [(f (r + 6) (by omega) (by omega)).2.1]; exact h.2.2.2.2.2.1
  · rw [(f (r + 7) (by omega) (by omega)).2.1]; exact h.2.2.2.2.2.2.1
  · rw [(f (r + 8) (by omega) (by omega)).2.1]; exact h.2.2.2.2.2.2.2.1
  · rw [(f (r + 9) (by omega) (by omega)).2.1]; exact h.2.2.2.2.2.2.2.2
theorem KF.sm {G : xG} {S : xS} {M M2 : xM} (h : KF G S M) (f : sC2 231 240 M M2) : KF G S M2 := ⟨h.1.sm (f.sub (by omega) (by omega)), by rw [(f 240 (by omega) (by omega)).2.1]; exact h.2.1, by rw [(f 234 (by omega) (by omega)).2.1]; exact h.2.2⟩
theorem KR.sm {G : xG} {Z : Nat → xS} {now : Nat} {M M2 : xM} (h : KR G Z now M) (f : sC2 61 220 M M2) : KR G Z now M2 := ⟨fun t a b => (h.1 t a b).sm (f.sub (by omega) (by omega)), by rw [(f 70 (by omega) (by omega)).2.1]; exact h.2⟩
theorem CLg.sm {A H : Nat → Nat} {L : Nat → Bool} {M M2 : xM} (h : CLg A H L M) (f : sC2 13 16 M M2) : CLg A H L M2 := h.keep (f 14 (by omega) (by omega)).2.1 (f 15 (by omega) (by omega)).2.1 (f 16 (by omega) (by omega)).2.1
theorem KE.sm {lg : xE2} {M M2 : xM} (h : KE lg M) (f : sC2 17 19 M M2) : KE lg M2 := by
  have h1 := (f 17 (by omega) (by omega)).1
  exact ⟨by rw [h1]; exact h.1, by rw [h1]; exact h.2.1, by rw [h1]; exact h.2.2.1, by rw [h1]; exact h.2.2.2.1, by rw [(f 18 (by omega) (by omega)).2.1]; exact h.2.2.2.2⟩
theorem KS.sm {sq : Nat → Nat} {M M2 : xM} (h : KS sq M) (f : sC2 22 22 M M2) : KS sq M2 := by
  unfold KS; rw [(f 22 (by omega) (by omega)).2.1]; exact h
theorem CO.sm {o : xO} {M M2 : xM} {r : Nat} (h : CO o M r) (f : sC2 r (r + 1) M M2) : CO o M2 r := by
  have h1 := (f r (by omega) (by omega)).1
  exact ⟨by rw [(f (r + 1) (by omega) (by omega)).2.1]; exact h.1, by rw [h1]; exact h.2.1, by rw [h1]; exact h.2.2.1, by rw [h1]; exact h.2.2.2⟩
theorem KWp.sm {w : xw} {g : Bool → Nat} {p : Nat} {M M2 : xM} (h : KWp w g p M) (f : sC2 (23 + 5 * p) (27 + 5 * p) M M2) : KWp w g p M2 := by
  have h1 := (f (23 + 5 * p) (by omega) (by omega)).1
  exact ⟨h.1.sm (f.sub (by omega) (by omega)), h.2.1.sm (f.sub (by omega) (by omega)), by rw [h1]; exact h.2.2.1, by rw [h1]; exact h.2.2.2.1, by rw [h1]; exact h.2.2.2.2.1, by rw [h1]; exact h.2.2.2.2.2⟩
theorem KW.sm {w : xw} {g : Nat → Bool → Nat} {M M2 : xM} (h : KW w g M) (f : sC2 23 42 M M2) : KW w g M2 := fun p hp => (h p hp).sm (f.sub (by omega) (by omega))
theorem CT.sm {q : xT} {M M2 : xM} {r : Nat} (h : CT q M r) (f : sC2 r (r + 2) M M2) : CT q M2 r := by
  have h1 := (f r (by omega) (by omega)).1
  exact ⟨by rw [h1]; exact h.1, by rw [h1]; exact h.2.1, by rw [h1]; exact h.2.2.1, by rw [(f (r + 1) (by omega) (by omega)).2.2]; exact h.2.2.2.1, by rw [(f (r + 2) (by omega) (by omega)).2.1]; exact h.2.2.2.2⟩
theorem KT.sm {tp : Nat → xT} {M M2 : xM} (h : KT tp M) (f : sC2 43 60 M M2) : KT tp M2 := fun d hd => (h d hd).sm (f.sub (by omega) (by omega))
theorem KM.sm {now late risk nl : Nat} {rf hr : Int32} {M M2 : xM} (h : KM now late risk nl rf hr M) (f : sC2 0 0 M M2) : KM now late risk nl rf hr M2 := by
  unfold KM; rw [(f 0 (by omega) (by omega)).1]; exact h
theorem sC2.xf {M : xM} {o k : Nat} {v : Int32} {lo hi : Nat} (h : o < lo ∨ hi < o) : sC2 lo hi M (xf M o k v) := fun a q1 q2 => ⟨xf_o (by omega), rfl, rfl⟩
theorem sC2.xa {M : xM} {o : Nat} {g : Nat → Int32} {lo hi : Nat} (h : o < lo ∨ hi < o) : sC2 lo hi M (xa M o g) := fun a q1 q2 => ⟨rfl, xa_n (by omega), rfl⟩
theorem sC2.xj {M : xM} {o : Nat} {g : Nat → Int64} {lo hi : Nat} (h : o < lo ∨ hi < o) : sC2 lo hi M (xj M o g) := fun a q1 q2 => ⟨rfl, rfl, xj_n (by omega)⟩
theorem sC2.fr {M M2 : xM} {r lo hi : Nat} (f : Fr r M M2) (h : r + 9 < lo ∨ hi < r + 1) : sC2 lo hi M M2 := fun a q1 q2 => ⟨by rw [f.1], f.2.2 a (by omega), by rw [f.2.1]⟩
theorem sC2.fk {M M2 : xM} {l h lo hi : Nat} (f : FK l h M M2) (q : h < lo ∨ hi < l) (q2 : hi < 15 ∨ 15 < lo) : sC2 lo hi M M2 := fun a q1 q3 => ⟨by rw [f.1], f.2.2 a (by omega) (by omega), by rw [f.2.1]⟩
theorem sC2.fo {M M2 : xM} {r lo hi : Nat} (f : FO r M M2) (h : r + 1 < lo ∨ hi < r) : sC2 lo hi M M2 := fun a q1 q2 => ⟨f.1 a (by omega), f.2.2 a (by omega), by rw [f.2.1]⟩
theorem sC2.fs {M M2 : xM} {r lo hi : Nat} (f : FS r M M2) (h : r + 4 < lo ∨ hi < r) : sC2 lo hi M M2 := fun a q1 q2 => ⟨f.1 a (by omega) (by omega), f.2.2.1 a (by omega), by rw [f.2.1]⟩
/-! in the model's cells -/
def NS (G : xG) (Z : Nat → xS) (now : Nat) (M : xM) : Prop := (∀ t, t ≤ now → RM G (Z t) M (112 * t)) ∧ ∀ n, n < 8 → M.2.1 5 (96 + n) = 0
def NL (L : Nat → Bool) (M : xM) : Prop := ∀ i, i < 2000 → M.2.1 7 i = xb (L i)
def NQ (sq : Nat → Nat) (M : xM) : Prop := ∀ p, p < 4 → M.2.1 9 p = nI (sq p)
def NE (lg : xE2) (M : xM) : Prop := M.1 0 21 = nI lg.1 ∧ M.1 0 22 = nI lg.2.1 ∧ M.1 0 23 = nI lg.2.2.1 ∧ M.1 0 24 = nI lg.2.2.2.1 ∧ ∀ i, i < 4 * min lg.2.2.2.1 64 → M.2.1 10 i = lg.2.2.2.2 i
def MT (q : xT) (M : xM) (d : Nat) : Prop := M.2.1 18 d = nI q.1 ∧ (1 ≤ q.1 → q.1 ≤ 4 → M.2.1 19 d = nI q.2.1 ∧ ∀ i, i < q.2.1 → M.2.2 21 (100 * d + i) = q.2.2.2.1 i) ∧ (q.1 = 5 → M.2.1 19 d = nI q.2.2.1 ∧ M.2.1 20 d = nI q.2.1 ∧ ∀ i, i < q.2.1 → M.2.2 21 (100 * d + i) = (q.2.2.2.2 i).toInt64)
def NT (tp : Nat → xT) (M : xM) : Prop := ∀ d, d < 6 → MT (tp d) M d
def NM (now late risk nl : Nat) (rf hr : Int32) (M : xM) : Prop := M.1 0 10 = nI now ∧ M.1 0 11 = nI late ∧ M.1 0 12 = nI risk ∧ M.1 0 18 = nI nl ∧ M.1 0 19 = rf ∧ M.1 0 20 = hr
def RepM (X : xX) (M : xM) : Prop := match X with
  | (G, S0, now, late, risk, A, L, sq, nl, rf, hr, lg, w, tp) => MG G M ∧ NS G (Zf G A S0) now M ∧ MA A M ∧ NL L M ∧ MH (Hx G A S0 now) M ∧ NE lg M ∧ NQ sq M ∧ MWt w M ∧ NT tp M ∧ NM now late risk nl rf hr M
theorem NS.sm {G : xG} {Z : Nat → xS} {now : Nat} {M M2 : xM} (hW : wG G) (h : NS G Z now M) (f : M2.2.1 5 = M.2.1 5) : NS G Z now M2 := ⟨fun t ht => (h.1 t ht).mv hW (fun j _ => by rw [f]), by rw [f]; exact h.2⟩
theorem MA.sm {A : Nat → Nat} {M M2 : xM} (h : MA A M) (f : M2.2.1 6 = M.2.1 6) : MA A M2 := by unfold MA; rw [f]; exact h
theorem NL.sm {L : Nat → Bool} {M M2 : xM} (h : NL L M) (f : M2.2.1 7 = M.2.1 7) : NL L M2 := by unfold NL; rw [f]; exact h
theorem MH.sm {H : Nat → Nat} {M M2 : xM} (h : MH H M) (f : M2.2.1 8 = M.2.1 8) : MH H M2 := by unfold MH; rw [f]; exact h
theorem NQ.sm {sq : Nat → Nat} {M M2 : xM} (h : NQ sq M) (f : M2.2.1 9 = M.2.1 9) : NQ sq M2 := by unfold NQ; rw [f]; exact h
theorem NE.sm {lg : xE2} {M M2 : xM} (h : NE lg M) (f : M2.2.1 10 = M.2.1 10) (g : ∀ k, 21 ≤ k → k ≤ 24 → M2.1 0 k = M.1 0 k) : NE lg M2 := ⟨by rw [g 21 (by omega) (by omega)]; exact h.1, by rw [g 22 (by omega) (by omega)]; exact h.2.1, by rw [g 23 (by omega) (by omega)]; exact h.2.2.1, by rw [g 24 (by omega) (by omega)]; exact h.2.2.2.1, by rw [f]; exact h.2.2.2.2⟩
theorem MO.sm {o : xO} {M M2 : xM} {k : Nat} (h : MO o M k) (f : ∀ a, 12 ≤ a → a ≤ 14 → M2.2.1 a = M.2.1 a) (g : M2.2.2 15 = M.2.2 15) : MO o M2 k := ⟨by rw [g]; exact h.1, by rw [f 12 (by omega) (by omega)]; exact h.2.1, by rw [f 13 (by omega) (by omega)]; exact h.2.2.1, by rw [f 14 (by omega) (by omega)]; exact h.2.2.2⟩
theorem MWt.sm {w : xw} {M M2 : xM} (h : MWt w M) (f : ∀ a, 12 ≤ a → a ≤ 17 → M2.2.1 a = M.2.1 a) (g : M2.2.2 15 = M.2.2 15) : MWt w M2 := ⟨fun k hk => (h.1 k hk).sm (fun a q1 q2 => f a q1 (by omega)) g, by rw [f 16 (by omega) (by omega)]; exact h.2.1, by rw [f 17 (by omega) (by omega)]; exact h.2.2⟩
theorem NT.sm {tp : Nat → xT} {M M2 : xM} (h : NT tp M) (f : ∀ a, 18 ≤ a → a ≤ 20 → M2.2.1 a = M.2.1 a) (g : M2.2.2 21 = M.2.2 21) : NT tp M2 := fun d hd => by
  unfold MT
  rw [f 18 (by omega) (by omega), f 19 (by omega) (by omega), f 20 (by omega) (by omega), g]
  exact h d hd
theorem NM.sm {now late risk nl : Nat} {rf hr : Int32} {M M2 : xM} (h : NM now late risk nl rf hr M) (g : ∀ k, (10 ≤ k ∧ k ≤ 12) ∨ (18 ≤ k ∧ k ≤ 20) → M2.1 0 k = M.1 0 k) : NM now late risk nl rf hr M2 := ⟨by rw [g 10 (by omega)]; exact h.1, by rw [g 11 (by omega)]; exact h.2.1, by rw [g 12 (by omega)]; exact h.2.2.1, by rw [g 18 (by omega)]; exact h.2.2.2.1, by rw [g 19 (by omega)]; exact h.2.2.2.2.1, by rw [g 20 (by omega)]; exact h.2.2.2.2.2⟩
theorem MG.sm {G : xG} {M M2 : xM} (h : MG G M) (g : ∀ k, k ≤ 9 → M2.1 0 k = M.1 0 k) (h2 : ∀ a, a < 5 → M2.2.1 a = M.2.1 a) : MG G M2 := by
  obtain ⟨q0, q1, q2, q3, q4, q5, q6, q7, q8⟩ := h
  refine ⟨by rw [g 1 (by omega)]; exact q0, by rw [g 2 (by omega)]; exact q1, by rw [g 3 (by omega)]; exact q2, by rw [g 6 (by omega)]; exact q3, by rw [g 8 (by omega)]; exact q4, ?_, ?_, ?_, ?_⟩
  · rw [h2 1 (by omega)]; exact q5
  · rw [h2 2 (by omega)]; exact q6
  · rw [h2 3 (by omega)]; exact q7
  · rw [h2 4 (by omega)]; exact q8
