/-! worlds as bags; rows of objects; blocks of worlds -/
theorem va_Pm {D : va_G} {cl : List vw_C} {ws : va_W} {H : Heap} : va_P D cl ws H ↔ ∀ q ∈ ws, va_at D cl q H :=
  ⟨fun h q hq => by obtain ⟨k, hk⟩ := List.getElem?_of_mem hq; exact h k q hk, fun h k q hk => h q (List.mem_of_getElem? hk)⟩
theorem nP_perm {D : va_G} {cl : List vw_C} {ws ws' : va_W} {H : Heap} (hp : ws.Perm ws') (h : va_P D cl ws H) : va_P D cl ws' H := va_Pm.2 fun q hq => va_Pm.1 h q (hp.mem_iff.2 hq)
theorem va_Dm {A : Nat → Prop} {ws : va_W} : va_D A ws ↔ ws.Pairwise (fun p q => p.1 ≠ q.1) ∧ ∀ q ∈ ws, A q.1 := by
  constructor
  · intro h
    refine ⟨List.pairwise_iff_getElem.2 (fun i j hi hj hij e => ?_), fun q hq => ?_⟩
    · have := h.1 i j ws[i] ws[j] (List.getElem?_eq_getElem hi) (List.getElem?_eq_getElem hj) e
      omega
    · obtain ⟨k, hk⟩ := List.getElem?_of_mem hq
      exact h.2 k q hk
  · intro h
    have h1 := List.pairwise_iff_getElem.1 h.1
    refine ⟨fun i j p q hp hq e => ?_, fun k q hk => h.2 q (List.mem_of_getElem? hk)⟩
    obtain ⟨hi, rfl⟩ := List.getElem?_eq_some_iff.mp hp
    obtain ⟨hj, rfl⟩ := List.getElem?_eq_some_iff.mp hq
    rcases Nat.lt_trichotomy i j with h9 | h9 | h9
    · exact absurd e (h1 i j hi hj h9)
    · exact h9
    · exact absurd e.symm (h1 j i hj hi h9)
theorem nD_perm {A : Nat → Prop} {ws ws' : va_W} (hp : ws.Perm ws') (h : va_D A ws) : va_D A ws' := by
  rw [va_Dm] at h ⊢
  exact ⟨(hp.pairwise_iff (fun h e => h e.symm)).1 h.1, fun q hq => h.2 q (hp.mem_iff.2 hq)⟩
def bW (cA : Nat → ClassId) (sh : List xSh) (B : Nat → Nat → Nat) : Nat → va_W
  | 0 => []
  | n + 1 => bW cA sh B n ++ xW cA (B n) sh zM
theorem bW_congr {cA : Nat → ClassId} {sh : List xSh} {B B' : Nat → Nat → Nat} : ∀ n : Nat, (∀ j, j < n → B j = B' j) → bW cA sh B n = bW cA sh B' n
  | 0, _ => rfl
  | n + 1, h => by rw [bW, bW, bW_congr n (fun j hj => h j (by omega)), h n (by omega)]
def bR (B : Nat → Nat → Nat) (j : Nat) : Nat → Option Nat := fun k => if k < j then some (B k 0) else none
def bUp (B : Nat → Nat → Nat) (j : Nat) (ad : Nat → Nat) : Nat → Nat → Nat := fun k => if k = j then ad else B k
theorem bUp_ne {B : Nat → Nat → Nat} {j k : Nat} {ad : Nat → Nat} (h : k < j) : bUp B j ad k = B k := if_neg (by omega)
theorem bUp_self {B : Nat → Nat → Nat} {j : Nat} {ad : Nat → Nat} : bUp B j ad j = ad := if_pos rfl
theorem bW_up {cA : Nat → ClassId} {sh : List xSh} {B : Nat → Nat → Nat} {j : Nat} {ad : Nat → Nat} : bW cA sh B j ++ xW cA ad sh zM = bW cA sh (bUp B j ad) (j + 1) := by
  rw [bW, bUp_self, bW_congr (B := bUp B j ad) (B' := B) j (fun k h => bUp_ne h)]
theorem bR_up {B : Nat → Nat → Nat} {j : Nat} {ad : Nat → Nat} : va_up (bR B j) j (some (ad 0)) = bR (bUp B j ad) (j + 1) := by
  funext k
  simp only [va_up, bR]
  by_cases h : k = j
  · subst h
    rw [if_pos rfl, if_pos (by omega), bUp_self]
  · rw [if_neg h]
    by_cases h2 : k < j
    · rw [if_pos h2, if_pos (by omega), bUp_ne h2]
    · rw [if_neg h2, if_neg (by omega)]
theorem bR_0 {B : Nat → Nat → Nat} : (fun _ => none) = bR B 0 := by
  funext k
  simp [bR]
theorem nj_in {j n : Nat} (h : j < n) (hn : n < 2 ^ 31) : vp_in (nI j) n := fun h9 => h9.elim (nI_pos (by omega)) (by rw [nI_clamp (by omega)]; omega)
theorem nj_le {a b : Nat} (ha : a < 2 ^ 31) (hb : b < 2 ^ 31) : nI a ≤ nI b ↔ a ≤ b := by
  rw [Int32.le_iff_toInt_le, nI_toInt ha, nI_toInt hb]; omega
theorem nj_1 {a : Nat} : nI a + Int32.ofInt 1 = nI (a + 1) := by
  unfold nI
  rw [show (Int32.ofInt 1 : Int32) = Int32.ofNat 1 from rfl]
  exact (Int32.ofNat_add a 1).symm
/-- a new row of objects, its class the known one -/
theorem nw_newq {p : Program} {l : Launch} {e : Env} {R : Room} {s : State} {m : MethodId} {args : Array Value} {below : List Frame} {meth : Method} {c : Code} {H H0 : Heap} {locs : List Loc} {cells slots : Nat} {Q : State → Prop} {cc : ByteArray} {pc : Nat} {ls : Array Slot} {rest : List Value} {D : va_G} {cA : Nat → ClassId} {ws : va_W} {A : Nat → Prop} (t : Nat)
    (hexec : p.tables.exec = Jvm.exec) (hb : c.code = cc) {own C : String} {index : Nat} (hown : s.vm.findClass own = some m.cls) (hclink : (Cond.classLink own index C).before args s = true) (hover : va_AO C s) (hK : va_K D vwCl (xtys cA) s) (ht : (xtys cA)[t]? = some (cA t, .object C)) (hP : va_P D vwCl ws H) (hD : va_D A ws) (hS : va_S A H0 H locs) (hA : ∀ q, H0.size ≤ q → A q)
    {n : Int32} {N' : Nat} (hn : ¬ n < 0) (hN : n.toNatClampNeg = N') (hbytes : N' * 4 ≤ 536870912) (hcells : cells + 1 ≤ R.cells) (hslots : slots + N' ≤ R.slots) (hdg : decode cc pc = .ok (.anewarray index, 3))
    (kk : ∀ (q : Nat) (H1 : Heap), va_P D vwCl (ws ++ [(q, .inl (cA t, N', .inr (.inr (.inr (.inr (fun _ => none))))))]) H1 → va_D A (ws ++ [(q, .inl (cA t, N', .inr (.inr (.inr (.inr (fun _ => none))))))]) → va_S A H0 H1 locs → W p l e R s m args below meth c H1 locs (cells + 1) (slots + N') Q (F0 m (pc + 3) ls (.ref q :: rest))) : W p l e R s m args below meth c H locs cells slots Q (F0 m pc ls (.int n :: rest)) := by
  refine va_newq hexec hb hown hclink hover hK hP hD hS hA hn hN hbytes hcells hslots hdg (fun q c9 H1 hK9 hP9 hD9 hS9 => ?_)
  obtain ⟨_, _, -, -, -, h1⟩ := (hK9.2 (xtys cA).length (c9, .object C) (by rw [List.getElem?_append_right (Nat.le_refl _)]; simp)).2
  obtain ⟨_, _, -, -, -, h2⟩ := (hK.2 t _ ht).2
  have e9 : c9 = cA t := Option.some.inj (h1.symm.trans h2)
  subst e9
  exact kk q H1 hP9 hD9 hS9
def nQw (D : va_G) {α : Type} (wf : α → va_W) (ex : α → Prop) (A : Nat → Prop) : Array Value → State → Outcome → State → Prop := fun _ st oc t =>
  (∃ y : α, oc = .returned none ∧ ex y ∧ va_P D vwCl (wf y) t.heap ∧ va_D A (wf y)) ∧ va_F A st t
theorem nw_goW {p : Program} {l : Launch} {e : Env} {R : Room} {s : State} {m : MethodId} {args : Array Value} {below : List Frame} {meth : Method} {c : Code} {H H0 : Heap} {locs : List Loc} {cells slots mc ms : Nat} {Q : State → Prop} {pc : Nat} {ls : Array Slot} {st0 rest : List Value} {D : va_G} {ws : va_W} {x : Nat × va_E} {A : Nat → Prop} {a : Array Value} {α : Type} {wf : α → va_W} {ex : α → Prop}
    (hr : va_Run p l e R s m args below meth c H locs cells slots mc ms (F0 m pc ls st0) rest (nQw D wf ex (va_A [x] H.size) a) (va_A [x] H.size)) (hP : va_P D vwCl (ws ++ [x]) H) (hD : va_D A (ws ++ [x])) (hS : va_S A H0 H locs) (hA : ∀ q, H0.size ≤ q → A q)
    (kk : ∀ (y : α) (H1 : Heap) (locs1 : List Loc), ex y → va_P D vwCl (ws ++ wf y) H1 → va_D A (ws ++ wf y) → va_S A H0 H1 locs1 → W p l e R s m args below meth c H1 locs1 (cells + mc) (slots + ms) Q (F0 m (pc + 3) ls rest)) : W p l e R s m args below meth c H locs cells slots Q (F0 m pc ls st0) := by
  intro T hT X
  obtain ⟨v, st₀, t, T', L, h0, X', hL, e1, e2, ⟨⟨y, hv, hex, hP1, hD1⟩, hF⟩, st⟩ := hr T hT X
  cases hv
  have hxl : (ws ++ [x])[ws.length]? = some x := by rw [List.getElem?_append_right (Nat.le_refl _)]; simp
  have hin : ∀ q, va_A [x] H.size q → A q := by
    rintro q (⟨k, e9, h⟩ | h)
    · cases k with
      | zero =>
        have h2 : some x = some (q, e9) := h
        have h3 := hD.2 _ _ hxl
        rw [Option.some.inj h2] at h3
        exact h3
      | succ k => simp at h
    · exact hA q (Nat.le_trans hS.1 h)
  obtain ⟨k1, k2, k3⟩ := vx_keep (A0 := A) h0 e1 hS (fun q _ h => hin q h) hin hL hF
  have hws : ∀ (k : Nat) (q : Nat × va_E), ws[k]? = some q → q.1 < H.size ∧ ¬ va_A [x] H.size q.1 := by
    intro k q hq
    have hlk := (List.getElem?_eq_some_iff.mp hq).1
    have hq2 : (ws ++ [x])[k]? = some q := by rw [List.getElem?_append_left hlk]; exact hq
    have hlt := (hP k q hq2).lt
    refine ⟨hlt, ?_⟩
    rintro (⟨j, e9, h⟩ | h)
    · cases j with
      | zero =>
        have h2 : some x = some (q.1, e9) := h
        have h3 := hD.1 k ws.length q x hq2 hxl (by rw [Option.some.inj h2])
        omega
      | succ j => simp at h
    · omega
  have hPw : va_P D vwCl ws H := fun k q hq => hP k q (by rw [List.getElem?_append_left (List.getElem?_eq_some_iff.mp hq).1]; exact hq)
  have hDw : va_D A ws := ⟨fun i j p q hp hq e9 => hD.1 i j p q (by rw [List.getElem?_append_left (List.getElem?_eq_some_iff.mp hp).1]; exact hp) (by rw [List.getElem?_append_left (List.getElem?_eq_some_iff.mp hq).1]; exact hq) e9, fun k q hq => hD.2 k q (by rw [List.getElem?_append_left (List.getElem?_eq_some_iff.mp hq).1]; exact hq)⟩
  rw [← e1] at hP1
  obtain ⟨t2, a1, b1⟩ := kk y T'.heap (locs ++ L) hex ((hPw.kept (fun k q hq => k2 q.1 (hws k q hq).1 (hws k q hq).2)).app hP1)
    (hDw.app (hD1.weaken (fun _ q _ h => hin q.1 h)) (fun i j y z hy hz e9 => (hws i y hy).2 (by rw [e9]; exact hD1.2 j z hz))) k3 T' rfl X'
  exact ⟨t2, st t2 a1, b1⟩
