/-- how many of the first n are told -/
def mvc (f : Nat → Option Nat) : Nat → Nat
  | 0 => 0
  | c + 1 => mvc f c + (if (f c).isSome = true then 1 else 0)
theorem mvc_le {f : Nat → Option Nat} : ∀ n, mvc f n ≤ n
  | 0 => Nat.le_refl _
  | n + 1 => by
    have := mvc_le (f := f) n
    rw [mvc]
    split <;> omega
/-- narrowed to a sort -/
def mnar (s : Nat) (v : Int64) : Int64 := if s = 1 then v.toInt32.toInt8.toInt32.toInt64 else if s = 2 then v.toInt32.toInt16.toInt32.toInt64 else if s = 3 then v.toInt32.toInt64 else v
def mrow (q : xT) (s n : Nat) : xT := (s, n, q.2.2.1, fun _ => 0, q.2.2.2.2)
def mview (G : xG) (S : xS) (p : Nat) (q : xT) : xT := (5, gN G, mvc (mtell G S p) (gN G), q.2.2.2.1, fun c => if c < gN G then xo (mtell G S p c) else q.2.2.2.2 c)
def mput (q : xT) (i : Nat) (v : Int64) : xT := (q.1, q.2.1, q.2.2.1, va_up q.2.2.2.1 i v, q.2.2.2.2)
def mcpy (a b : xT) (i j n : Nat) : xT := (b.1, b.2.1, b.2.2.1, va_cpy a.2.2.2.1 b.2.2.2.1 i j n, b.2.2.2.2)
def st_tape (X : xX) (x y z : Int32) : Int32 × xX := match X with
  | (G, S0, now, late, risk, A, L, sq, nl, rf, hr, lg, w, tp) => match xix x 6 with
    | none => (-1, (G, S0, now, late, risk, A, L, sq, nl, rf, hr, lg, w, tp))
    | some d => match xrg y 1 4 with
      | none => (-1, (G, S0, now, late, risk, A, L, sq, nl, rf, hr, lg, w, tp))
      | some s => if nI 80 < z then (-1, (G, S0, now, late, risk, A, L, sq, nl, rf, hr, lg, w, tp)) else match xrg z 0 80 with
        | none => (-14, (G, S0, now, late, risk, A, L, sq, nl, rf, hr + 1, lg, w, tp))
        | some n => (nI n, (G, S0, now, late, risk, A, L, sq, nl, rf, hr, lg, w, va_up tp d (mrow (tp d) s n)))
def st_view (X : xX) (x y : Int32) : Int32 × xX := match X with
  | (G, S0, now, late, risk, A, L, sq, nl, rf, hr, lg, w, tp) => match xix x 6 with
    | none => (-1, (G, S0, now, late, risk, A, L, sq, nl, rf, hr, lg, w, tp))
    | some d => match xix y (gP G) with
      | none => (-1, (G, S0, now, late, risk, A, L, sq, nl, rf, hr, lg, w, tp))
      | some p => (nI (mvc (mtell G (Zf G A S0 now) p) (gN G)), (G, S0, now, late, risk, A, L, sq, nl, rf, hr, lg, w, va_up tp d (mview G (Zf G A S0 now) p (tp d))))
def st_clear (X : xX) (x : Int32) : Int32 × xX := match X with
  | (G, S0, now, late, risk, A, L, sq, nl, rf, hr, lg, w, tp) => match xix x 6 with
    | none => (-1, (G, S0, now, late, risk, A, L, sq, nl, rf, hr, lg, w, tp))
    | some d => (nI (tp d).1, (G, S0, now, late, risk, A, L, sq, nl, rf, hr, lg, w, va_up tp d (0, (tp d).2)))
def st_put (X : xX) (x y : Int32) (v : Int64) : Int32 × xX := match X with
  | (G, S0, now, late, risk, A, L, sq, nl, rf, hr, lg, w, tp) => match xix x 6 with
    | none => (-1, (G, S0, now, late, risk, A, L, sq, nl, rf, hr, lg, w, tp))
    | some d => if (tp d).1 = 0 then (-11, (G, S0, now, late, risk, A, L, sq, nl, rf, hr + 1, lg, w, tp)) else if (tp d).1 = 5 then (-12, (G, S0, now, late, risk, A, L, sq, nl, rf, hr + 1, lg, w, tp)) else match xix y (tp d).2.1 with
      | none => (-13, (G, S0, now, late, risk, A, L, sq, nl, rf, hr + 1, lg, w, tp))
      | some i => (1, (G, S0, now, late, risk, A, L, sq, nl, rf, hr, lg, w, va_up tp d (mput (tp d) i (mnar (tp d).1 v))))
def st_copy (X : xX) (x y z u v : Int32) : Int32 × xX := match X with
  | (G, S0, now, late, risk, A, L, sq, nl, rf, hr, lg, w, tp) => match xix x 6 with
    | none => (-1, (G, S0, now, late, risk, A, L, sq, nl, rf, hr, lg, w, tp))
    | some d => match xix z 6 with
      | none => (-1, (G, S0, now, late, risk, A, L, sq, nl, rf, hr, lg, w, tp))
      | some e => if (tp d).1 = 0 ∨ (tp e).1 = 0 then (-11, (G, S0, now, late, risk, A, L, sq, nl, rf, hr + 1, lg, w, tp)) else if (tp d).1 = 5 ∨ ¬ (tp d).1 = (tp e).1 then (-12, (G, S0, now, late, risk, A, L, sq, nl, rf, hr + 1, lg, w, tp)) else match xrg v 0 80 with
        | none => (-13, (G, S0, now, late, risk, A, L, sq, nl, rf, hr + 1, lg, w, tp))
        | some n => match xrg y 0 80 with
          | none => (-13, (G, S0, now, late, risk, A, L, sq, nl, rf, hr + 1, lg, w, tp))
          | some i => match xrg u 0 80 with
            | none => (-13, (G, S0, now, late, risk, A, L, sq, nl, rf, hr + 1, lg, w, tp))
            | some j => if i + n ≤ (tp d).2.1 ∧ j + n ≤ (tp e).2.1 then (nI n, (G, S0, now, late, risk, A, L, sq, nl, rf, hr, lg, w, va_up tp e (mcpy (tp d) (tp e) i j n))) else (-13, (G, S0, now, late, risk, A, L, sq, nl, rf, hr + 1, lg, w, tp))
def st_kept (X : xX) (x y : Int32) : Int32 × xX := match X with
  | (G, S0, now, late, risk, A, L, sq, nl, rf, hr, lg, w, tp) => match xix x 6 with
    | none => (-1, (G, S0, now, late, risk, A, L, sq, nl, rf, hr, lg, w, tp))
    | some d => if (tp d).1 = 0 then (-11, (G, S0, now, late, risk, A, L, sq, nl, rf, hr + 1, lg, w, tp)) else if ¬ (tp d).1 = 5 then (-12, (G, S0, now, late, risk, A, L, sq, nl, rf, hr + 1, lg, w, tp)) else match xix y (tp d).2.1 with
      | none => (-13, (G, S0, now, late, risk, A, L, sq, nl, rf, hr + 1, lg, w, tp))
      | some c => ((tp d).2.2.2.2 c, (G, S0, now, late, risk, A, L, sq, nl, rf, hr, lg, w, tp))
def st_toss (X : xX) (x : Int32) : Int32 × xX := match X with
  | (G, S0, now, late, risk, A, L, sq, nl, rf, hr, lg, w, tp) => match xix x 6 with
    | none => (-1, (G, S0, now, late, risk, A, L, sq, nl, rf, hr, lg, w, tp))
    | some d => if (tp d).1 = 0 then (-11, (G, S0, now, late, risk, A, L, sq, nl, rf, hr + 1, lg, w, tp)) else if ¬ (tp d).1 = 5 then (-12, (G, S0, now, late, risk, A, L, sq, nl, rf, hr + 1, lg, w, tp)) else if (tp d).2.2.1 = 0 then (-15, (G, S0, now, late, risk, A, L, sq, nl, rf, hr + 1, lg, w, tp)) else (nI (tp d).2.2.1, (G, S0, now, late, risk, A, L, sq, nl, rf, hr, lg, w, tp))
theorem RepC_ref {G : xG} {S0 : xS} {now late risk : Nat} {A : Nat → Nat} {L : Nat → Bool} {sq : Nat → Nat} {nl : Nat} {rf hr : Int32} {lg : xE2} {w : xw} {tp : Nat → xT} {M : xM} (hC : RepC (G, S0, now, late, risk, A, L, sq, nl, rf, hr, lg, w, tp) M) : RepC (G, S0, now, late, risk, A, L, sq, nl, rf, hr + 1, lg, w, tp) (xf M 0 14 (hr + 1)) := by
  obtain ⟨a, b, c, d, e, f, g, i, j⟩ := hC
  exact RepC_mk (a.sm (sC2.xf (by omega))) (b.sm (sC2.xf (by omega))) (c.sm (sC2.xf (by omega))) (d.sm (sC2.xf (by omega))) (e.sm (sC2.xf (by omega))) (f.sm (sC2.xf (by omega))) (g.sm (sC2.xf (by omega))) (i.sm (sC2.xf (by omega))) ⟨j.1, j.2.1, j.2.2.1, j.2.2.2.1, j.2.2.2.2.1, rfl⟩
theorem RepM_ref {G : xG} {S0 : xS} {now late risk : Nat} {A : Nat → Nat} {L : Nat → Bool} {sq : Nat → Nat} {nl : Nat} {rf hr : Int32} {lg : xE2} {w : xw} {tp : Nat → xT} {M : xM} (hC : RepM (G, S0, now, late, risk, A, L, sq, nl, rf, hr, lg, w, tp) M) : RepM (G, S0, now, late, risk, A, L, sq, nl, rf, hr + 1, lg, w, tp) (xf M 0 20 (hr + 1)) := by
  obtain ⟨a, b, c, d, e, f, g, i, j, k0⟩ := hC
  exact RepM_mk a b c d e f g i j ⟨k0.1, k0.2.1, k0.2.2.1, k0.2.2.2.1, k0.2.2.2.2.1, rfl⟩
/-- one tape alone is changed -/
theorem RepC_tp {G : xG} {S0 : xS} {now late risk : Nat} {A : Nat → Nat} {L : Nat → Bool} {sq : Nat → Nat} {nl : Nat} {rf hr : Int32} {lg : xE2} {w : xw} {tp : Nat → xT} {M : xM} {M2 : xM} {u : Nat} {q : xT} (hC : RepC (G, S0, now, late, risk, A, L, sq, nl, rf, hr, lg, w, tp) M) (hu : u < 6) (f1 : sC2 0 (42 + 3 * u) M M2) (f2 : sC2 (46 + 3 * u) 240 M M2) (hq : CT q M2 (43 + 3 * u)) : RepC (G, S0, now, late, risk, A, L, sq, nl, rf, hr, lg, w, va_up tp u q) M2 := by
  obtain ⟨a, b, c, d, e, f, g, i, j⟩ := hC
  refine RepC_mk (a.sm (f1.sub (by omega) (by omega))) (b.sm (f2.sub (by omega) (by omega))) (c.sm (f2.sub (by omega) (by omega))) (d.sm (f1.sub (by omega) (by omega))) (e.sm (f1.sub (by omega) (by omega))) (f.sm (f1.sub (by omega) (by omega))) (g.sm (f1.sub (by omega) (by omega))) (fun z hz => ?_) (j.sm (f1.sub (by omega) (by omega)))
  by_cases e1 : z = u
  · rw [e1, up_s]; exact hq
  · rw [up_n e1]
    rcases Nat.lt_or_gt_of_ne e1 with e2 | e2
    · exact (i z hz).sm (f1.sub (by omega) (by omega))
    · exact (i z hz).sm (f2.sub (by omega) (by omega))
/-- in the model: tapes' cells alone -/
def Ft (u : Nat) (M M2 : xM) : Prop := M2.1 = M.1 ∧ (∀ a, (a < 18 ∨ 20 < a) → M2.2.1 a = M.2.1 a) ∧ (∀ a, ¬ a = 21 → ¬ a = 22 → M2.2.2 a = M.2.2 a) ∧ (∀ a, ∀ k, ¬ k = u → M2.2.1 a k = M.2.1 a k) ∧ ∀ i, (i < 100 * u ∨ 100 * u + 100 ≤ i) → M2.2.2 21 i = M.2.2 21 i
theorem Ft.rf {u : Nat} {M : xM} : Ft u M M := ⟨rfl, fun _ _ => rfl, fun _ _ _ => rfl, fun _ _ _ => rfl, fun _ _ => rfl⟩
theorem Ft.tr {u : Nat} {M M1 M2 : xM} (h : Ft u M M1) (h2 : Ft u M1 M2) : Ft u M M2 := ⟨h2.1.trans h.1, fun a q => (h2.2.1 a q).trans (h.2.1 a q), fun a q q2 => (h2.2.2.1 a q q2).trans (h.2.2.1 a q q2), fun a k q => (h2.2.2.2.1 a k q).trans (h.2.2.2.1 a k q), fun i q => (h2.2.2.2.2 i q).trans (h.2.2.2.2 i q)⟩
theorem Ft.xa {u a : Nat} {M : xM} {v : Int32} (h : 18 ≤ a) (h2 : a ≤ 20) : Ft u M (xa M a (upd (M.2.1 a) u v)) := ⟨rfl, fun b q => xa_n (by omega), fun _ _ _ => rfl, fun b k q => by
  by_cases e : b = a
  · subst e; rw [xa_s, upd_n q]
  · rw [xa_n e], fun _ _ => rfl⟩
theorem Ft.xj {u i : Nat} {M : xM} {v : Int64} (h : 100 * u ≤ i) (h2 : i < 100 * u + 100) : Ft u M (xj M 21 (vp_updL (M.2.2 21) i v)) := ⟨rfl, fun _ _ => rfl, fun a q _ => xj_n q, fun _ _ _ => rfl, fun k q => by rw [xj_s, updL_n (by omega)]⟩
theorem Ft_xb {u : Nat} {M : xM} {f : Nat → Int64} : Ft u M (xj M 22 f) := ⟨rfl, fun _ _ => rfl, fun a _ q => xj_n q, fun _ _ _ => rfl, fun k q => by rw [xj_n (by decide)]⟩
theorem RepM_tp {G : xG} {S0 : xS} {now late risk : Nat} {A : Nat → Nat} {L : Nat → Bool} {sq : Nat → Nat} {nl : Nat} {rf hr : Int32} {lg : xE2} {w : xw} {tp : Nat → xT} {M : xM} {M2 : xM} {u : Nat} {q : xT} (hX : wX (G, S0, now, late, risk, A, L, sq, nl, rf, hr, lg, w, tp)) (hC : RepM (G, S0, now, late, risk, A, L, sq, nl, rf, hr, lg, w, tp) M) (hu : u < 6) (F : Ft u M M2) (hq : MT q M2 u) : RepM (G, S0, now, late, risk, A, L, sq, nl, rf, hr, lg, w, va_up tp u q) M2 := by
  obtain ⟨a, b, c, d, e, f, g, i, j, k0⟩ := hC
  have hW : wG G := hX.1
  refine RepM_mk (a.sm (fun k _ => by rw [F.1]) (fun a ha => F.2.1 a (by omega))) (b.sm hW (F.2.1 5 (by omega))) (c.sm (F.2.1 6 (by omega))) (d.sm (F.2.1 7 (by omega))) (e.sm (F.2.1 8 (by omega))) (f.sm (F.2.1 10 (by omega)) (fun k _ _ => by rw [F.1])) (g.sm (F.2.1 9 (by omega))) (i.sm (fun a q1 q2 => F.2.1 a (by omega)) (F.2.2.1 15 (by decide) (by decide))) (fun z hz => ?_) (k0.sm (fun k _ => by rw [F.1]))
  by_cases e1 : z = u
  · rw [e1, up_s]; exact hq
  · rw [up_n e1]
    have hj := j z hz
    refine ⟨(F.2.2.2.1 18 z e1).trans hj.1, fun q1 q2 => ⟨(F.2.2.2.1 19 z e1).trans (hj.2.1 q1 q2).1, fun n hn => ?_⟩, fun q1 => ⟨(F.2.2.2.1 19 z e1).trans (hj.2.2 q1).1, (F.2.2.2.1 20 z e1).trans (hj.2.2 q1).2.1, fun n hn => ?_⟩⟩
    · have := (hX.2.2.2.2.2.2.2.2.2.2.2.1 z).2.1
      rw [F.2.2.2.2 _ (by omega)]; exact (hj.2.1 q1 q2).2 n hn
    · have := (hX.2.2.2.2.2.2.2.2.2.2.2.1 z).2.1
      rw [F.2.2.2.2 _ (by omega)]; exact (hj.2.2 q1).2.2 n hn
set_option maxHeartbeats 4000000 in
set_option maxRecDepth 100000 in
theorem c_refuse {M : xM} {Q : Option Value → xM → Prop} {x c : Int32} (hh : M.1 0 14 = c) (h : Q (some (.int x)) (xf M 0 14 (c + 1))) : WP shC mX9_refuse 0 [some (.ref 0), some (.int x)] [] M Q := by
  refine xi_aload_n dX9_refuse_0 rfl ?_
  refine xi_dup dX9_refuse_1 rfl ?_
  refine xe_getI (v := c) dX9_refuse_2 fgX9_113 cc0 rfl hh ?_
  refine xi_iconst (v := 1) dX9_refuse_5 rfl ?_
  refine xi_iadd dX9_refuse_6 ?_
  refine xi_put dX9_refuse_7 fpX9_113 cc0 rfl ?_
  refine xi_iload_n dX9_refuse_10 rfl ?_
  refine xi_iret (v := x) dX9_refuse_11 rfl ?_
  exact h

set_option maxHeartbeats 4000000 in
set_option maxRecDepth 100000 in
theorem o_host {M : xM} {Q : Option Value → xM → Prop} {x c : Int32} (hh : M.1 0 20 = c) (h : Q (some (.int x)) (xf M 0 20 (c + 1))) : WP shM mX10_host 0 [some (.ref 0), some (.int x)] [] M Q := by
  refine xi_aload_n dX10_host_0 rfl ?_
  refine xi_dup dX10_host_1 rfl ?_
  refine xe_getI (v := c) dX10_host_2 fgX10_101 mm0 rfl hh ?_
  refine xi_iconst (v := 1) dX10_host_5 rfl ?_
  refine xi_iadd dX10_host_6 ?_
  refine xi_put dX10_host_7 fpX10_101 mm0 rfl ?_
  refine xi_iload_n dX10_host_10 rfl ?_
  refine xi_iret (v := x) dX10_host_11 rfl ?_
  exact h

set_option maxHeartbeats 4000000 in
set_option maxRecDepth 100000 in
theorem t_hasT {M : xM} {Q : Option Value → xM → Prop} {r k n : Nat} (hr : isTp r) (hz : M.1 r 1 = nI n) (hk : k < n) (hn : n ≤ 100) (h : Q (some (.int (xb true))) M) : WP shC mX8_hasPlace 0 [some (.ref r), some (.int (nI k))] [] M Q := by
  refine xi_iload_n dX8_hasPlace_0 rfl ?_
  refine xn_if_lt k 16 dX8_hasPlace_1 (by decide) rfl (by omega) ?_
  refine xi_iload_n dX8_hasPlace_4 rfl ?_
  refine xi_aload_n dX8_hasPlace_5 rfl ?_
  refine xe_getI (v := nI n) dX8_hasPlace_6 fgX8_23 (tpo hr) rfl hz ?_
  refine xn_icmp_ge k n 16 dX8_hasPlace_9 (by decide) rfl rfl (by omega) (by omega) (fun z => absurd z (by omega)) (fun h9 => ?_)
  refine xi_iconst (v := 1) dX8_hasPlace_12 rfl ?_
  refine xi_goto 17 dX8_hasPlace_13 (by decide) ?_
  refine xi_zret (v := 1) dX8_hasPlace_17 rfl (by decide) ?_
  exact h

set_option maxHeartbeats 4000000 in
set_option maxRecDepth 100000 in
theorem t_hasF {M : xM} {Q : Option Value → xM → Prop} {r n : Nat} {x : Int32} (hr : isTp r) (hz : M.1 r 1 = nI n) (hc : x < 0 ∨ nI n ≤ x) (hn : n ≤ 100) (h : Q (some (.int (xb false))) M) : WP shC mX8_hasPlace 0 [some (.ref r), some (.int x)] [] M Q := by
  refine xi_iload_n dX8_hasPlace_0 rfl ?_
  refine xi_if_lt 16 dX8_hasPlace_1 (by decide) (fun h1 => ?_) (fun h1 => ?_)
  · skip
    refine xi_iconst (v := 0) dX8_hasPlace_16 rfl ?_
    refine xi_zret (v := 0) dX8_hasPlace_17 rfl (by decide) ?_
    exact h
  · skip
    refine xi_iload_n dX8_hasPlace_4 rfl ?_
    refine xi_aload_n dX8_hasPlace_5 rfl ?_
    refine xe_getI (v := nI n) dX8_hasPlace_6 fgX8_23 (tpo hr) rfl hz ?_
    refine xi_icmp_ge 16 dX8_hasPlace_9 (by decide) (fun h9 => ?_) (fun z => hc.elim (fun q => absurd q h1) (fun q => absurd q z))
    refine xi_iconst (v := 0) dX8_hasPlace_16 rfl ?_
    refine xi_zret (v := 0) dX8_hasPlace_17 rfl (by decide) ?_
    exact h

set_option maxHeartbeats 4000000 in
set_option maxRecDepth 100000 in
theorem t_isRow {M : xM} {Q : Option Value → xM → Prop} {r s : Nat} (hr : isTp r) (hs : M.1 r 0 = nI s) (hn : s ≤ 5) (h : Q (some (.int (xb (decide (1 ≤ s ∧ s ≤ 4))))) M) : WP shC mX8_isRow 0 [some (.ref r)] [] M Q := by
  refine xi_aload_n dX8_isRow_0 rfl ?_
  refine xe_getI (v := nI s) dX8_isRow_1 fgX8_19 (tpo hr) rfl hs ?_
  refine xi_iconst (v := 1) dX8_isRow_4 rfl ?_
  refine xn_icmp_lt s 1 20 dX8_isRow_5 (by decide) rfl rfl (by omega) (by omega) (fun h5 => ?_) (fun h5 => ?_)
  · skip
    refine xi_iconst (v := 0) dX8_isRow_20 rfl ?_
    refine xi_zret (v := 0) dX8_isRow_21 rfl (by decide) ?_
    rw [show decide (1 ≤ s ∧ s ≤ 4) = false by simp; omega] at h
    exact h
  · skip
    refine xi_aload_n dX8_isRow_8 rfl ?_
    refine xe_getI (v := nI s) dX8_isRow_9 fgX8_19 (tpo hr) rfl hs ?_
    refine xi_iconst (v := 4) dX8_isRow_12 rfl ?_
    refine xn_icmp_gt s 4 20 dX8_isRow_13 (by decide) rfl rfl (by omega) (by omega) (fun h13 => ?_) (fun h13 => ?_)
    · skip
      refine xi_iconst (v := 0) dX8_isRow_20 rfl ?_
      refine xi_zret (v := 0) dX8_isRow_21 rfl (by decide) ?_
      rw [show decide (1 ≤ s ∧ s ≤ 4) = false by simp; omega] at h
      exact h
    · skip
      refine xi_iconst (v := 1) dX8_isRow_16 rfl ?_
      refine xi_goto 21 dX8_isRow_17 (by decide) ?_
      refine xi_zret (v := 1) dX8_isRow_21 rfl (by decide) ?_
      rw [show decide (1 ≤ s ∧ s ≤ 4) = true by simp; omega] at h
      exact h

set_option maxHeartbeats 4000000 in
set_option maxRecDepth 100000 in
theorem t_nar {M : xM} {Q : Option Value → xM → Prop} {r s : Nat} {v : Int64} (hr : isTp r) (hs : M.1 r 0 = nI s) (hn : s ≤ 5) (h : Q (some (.long (mnar s v))) M) : WP shC mX8_narrowed 0 [some (.ref r), some (.long v), none] [] M Q := by
  refine xi_aload_n dX8_narrowed_0 rfl ?_
  refine xe_getI (v := nI s) dX8_narrowed_1 fgX8_19 (tpo hr) rfl hs ?_
  by_cases h4_1 : s = 1
  · refine xi_tableIn 32 0 dX8_narrowed_4 (by rw [nI_toInt (by omega), h4_1]; rfl) (by decide) rfl (by decide) ?_
    refine xi_lload_n dX8_narrowed_32 rfl ?_
    refine xi_l2i dX8_narrowed_33 ?_
    refine xi_i2b dX8_narrowed_34 ?_
    refine xi_i2l dX8_narrowed_35 ?_
    refine xi_lret (v := v.toInt32.toInt8.toInt32.toInt64) dX8_narrowed_36 rfl ?_
    rw [show mnar s v = v.toInt32.toInt8.toInt32.toInt64 by unfold mnar; rw [if_pos h4_1]] at h
    exact h
  by_cases h4_2 : s = 2
  · refine xi_tableIn 37 1 dX8_narrowed_4 (by rw [nI_toInt (by omega), h4_2]; rfl) (by decide) rfl (by decide) ?_
    refine xi_lload_n dX8_narrowed_37 rfl ?_
    refine xi_l2i dX8_narrowed_38 ?_
    refine xi_i2s dX8_narrowed_39 ?_
    refine xi_i2l dX8_narrowed_40 ?_
    refine xi_lret (v := v.toInt32.toInt16.toInt32.toInt64) dX8_narrowed_41 rfl ?_
    rw [show mnar s v = v.toInt32.toInt16.toInt32.toInt64 by unfold mnar; rw [if_neg h4_1, if_pos h4_2]] at h
    exact h
  by_cases h4_3 : s = 3
  · refine xi_tableIn 42 2 dX8_narrowed_4 (by rw [nI_toInt (by omega), h4_3]; rfl) (by decide) rfl (by decide) ?_
    refine xi_lload_n dX8_narrowed_42 rfl ?_
    refine xi_l2i dX8_narrowed_43 ?_
    refine xi_i2l dX8_narrowed_44 ?_
    refine xi_lret (v := v.toInt32.toInt64) dX8_narrowed_45 rfl ?_
    rw [show mnar s v = v.toInt32.toInt64 by unfold mnar; rw [if_neg h4_1, if_neg h4_2, if_pos h4_3]] at h
    exact h
  refine xi_tableOut 46 dX8_narrowed_4 (by decide) (by rw [nI_toInt (by omega)]; omega) ?_
  refine xi_lload_n dX8_narrowed_46 rfl ?_
  refine xi_lret (v := v) dX8_narrowed_47 rfl ?_
  rw [show mnar s v = v by unfold mnar; rw [if_neg h4_1, if_neg h4_2, if_neg h4_3]] at h
  exact h

set_option maxHeartbeats 4000000 in
set_option maxRecDepth 100000 in
theorem o_nar {M : xM} {Q : Option Value → xM → Prop} {s : Nat} {v : Int64} (hn : s ≤ 5) (h : Q (some (.long (mnar s v))) M) : WP shM mX10_narrow 0 [some (.int (nI s)), some (.long v), none] [] M Q := by
  refine xi_iload_n dX10_narrow_0 rfl ?_
  refine xi_iconst (v := 1) dX10_narrow_1 rfl ?_
  refine xn_icmp_ne s 1 12 dX10_narrow_2 (by decide) rfl rfl (by omega) (by omega) (fun h2 => ?_) (fun h2 => ?_)
  · skip
    refine xi_iload_n dX10_narrow_12 rfl ?_
    refine xi_iconst (v := 2) dX10_narrow_13 rfl ?_
    refine xn_icmp_ne s 2 24 dX10_narrow_14 (by decide) rfl rfl (by omega) (by omega) (fun h14 => ?_) (fun h14 => ?_)
    · skip
      refine xi_iload_n dX10_narrow_24 rfl ?_
      refine xi_iconst (v := 3) dX10_narrow_25 rfl ?_
      refine xn_icmp_ne s 3 35 dX10_narrow_26 (by decide) rfl rfl (by omega) (by omega) (fun h26 => ?_) (fun h26 => ?_)
      · skip
        refine xi_lload_n dX10_narrow_35 rfl ?_
        refine xi_lret (v := v) dX10_narrow_36 rfl ?_
        rw [show mnar s v = v by unfold mnar; rw [if_neg h2, if_neg h14, if_neg h26]] at h
        exact h
      · skip
        refine xi_lload_n dX10_narrow_29 rfl ?_
        refine xi_l2i dX10_narrow_30 ?_
        refine xi_i2l dX10_narrow_31 ?_
        refine xi_goto 36 dX10_narrow_32 (by decide) ?_
        refine xi_lret (v := v.toInt32.toInt64) dX10_narrow_36 rfl ?_
        rw [show mnar s v = v.toInt32.toInt64 by unfold mnar; rw [if_neg h2, if_neg h14, if_pos h26]] at h
        exact h
    · skip
      refine xi_lload_n dX10_narrow_17 rfl ?_
      refine xi_l2i dX10_narrow_18 ?_
      refine xi_i2s dX10_narrow_19 ?_
      refine xi_i2l dX10_narrow_20 ?_
      refine xi_goto 36 dX10_narrow_21 (by decide) ?_
      refine xi_lret (v := v.toInt32.toInt16.toInt32.toInt64) dX10_narrow_36 rfl ?_
      rw [show mnar s v = v.toInt32.toInt16.toInt32.toInt64 by unfold mnar; rw [if_neg h2, if_pos h14]] at h
      exact h
  · skip
    refine xi_lload_n dX10_narrow_5 rfl ?_
    refine xi_l2i dX10_narrow_6 ?_
    refine xi_i2b dX10_narrow_7 ?_
    refine xi_i2l dX10_narrow_8 ?_
    refine xi_goto 36 dX10_narrow_9 (by decide) ?_
    refine xi_lret (v := v.toInt32.toInt8.toInt32.toInt64) dX10_narrow_36 rfl ?_
    rw [show mnar s v = v.toInt32.toInt8.toInt32.toInt64 by unfold mnar; rw [if_pos h2]] at h
    exact h

