/-! an object made and built inside a larger world -/
def xNst : List Cond := [.methodLinkNest RX7 11 yX4_init "RunJudge", .methodLinkNest RX9 9 yX1_init "RunJudge", .methodLinkNest RX9 39 yX3_init "RunJudge", .methodLinkNest RX9 46 yX2_init "RunJudge", .methodLinkNest RX9 57 yX7_init "RunJudge", .methodLinkNest RX9 64 yX8_init "RunJudge"]
theorem xNst_in : xNst.all (fun w => decide (w ∈ tables_1) && w.onTables) = true := by decide +kernel
def xZn (U : State) : Prop := (∀ w ∈ xNst, va_Nw w U) ∧ va_AO "RunJudge$State" U ∧ va_AO "RunJudge$Suspect" U ∧ va_AO "RunJudge$Tape" U
theorem xZn_to {s U : State} (hW : s.WarmedH U.vm) (h : xZn s) : xZn U := by
  obtain ⟨h0, h1, h2, h3⟩ := h
  refine ⟨fun w hw => ?_, h1.moved hW.alike, h2.moved hW.alike, h3.moved hW.alike⟩
  have h4 := h0 w hw
  simp only [xNst, List.mem_cons, List.not_mem_nil, or_false] at hw
  rcases hw with rfl | rfl | rfl | rfl | rfl | rfl <;> exact va_Nw.warmM hW h4
theorem xZn_calling {U : State} {g : JFrame} {mk : MethodId} {a : Array Value} (h : xZn U) : xZn (U.calling g mk a) := xZn_to (s := U) (U := U.calling g mk a) (State.WarmedH.refl U) h
theorem nblind {D : va_G} {cA : Nat → ClassId} {x : Nat × va_E} {sz : Nat} {av : List Value} : FrameBlind (va_Pc av (nP D cA x sz)) := by
  intro a U g mk q
  obtain ⟨q0, q1, qP, qK, qD⟩ := q
  exact ⟨q0, q1, qP, va_K.moved (u := U) (U := U.calling g mk a) (Vm.Alike.refl U.vm) qK, qD⟩
def nPn (D : va_G) (cA : Nat → ClassId) (x : Nat × va_E) (sz : Nat) (U : State) : Prop := nP D cA x sz U ∧ xZn U
theorem nblindN {D : va_G} {cA : Nat → ClassId} {x : Nat × va_E} {sz : Nat} {av : List Value} : FrameBlind (va_Pc av (nPn D cA x sz)) := by
  intro a U g mk q
  obtain ⟨q0, ⟨q1, qP, qK, qD⟩, qz⟩ := q
  exact ⟨q0, ⟨q1, qP, va_K.moved (u := U) (U := U.calling g mk a) (Vm.Alike.refl U.vm) qK, qD⟩, xZn_calling qz⟩
theorem nw_go {p : Program} {l : Launch} {e : Env} {R : Room} {s : State} {m : MethodId} {args : Array Value} {below : List Frame} {meth : Method} {c : Code} {H H0 : Heap} {locs : List Loc} {cells slots mc ms : Nat} {Q : State → Prop} {pc : Nat} {ls : Array Slot} {st0 rest : List Value} {D : va_G} {cA : Nat → ClassId} {ws : va_W} {x : Nat × va_E} {A : Nat → Prop} {a : Array Value} {sh : List xSh} {ex : (Nat → Nat) → Prop}
    (hr : va_Run p l e R s m args below meth c H locs cells slots mc ms (F0 m pc ls st0) rest (nQ D cA sh ex (va_A [x] H.size) a) (va_A [x] H.size)) (hP : va_P D vwCl (ws ++ [x]) H) (hD : va_D A (ws ++ [x])) (hS : va_S A H0 H locs) (hA : ∀ q, H0.size ≤ q → A q)
    (kk : ∀ (ad : Nat → Nat) (H1 : Heap) (locs1 : List Loc), ex ad → va_P D vwCl (ws ++ xW cA ad sh zM) H1 → va_D A (ws ++ xW cA ad sh zM) → va_S A H0 H1 locs1 → W p l e R s m args below meth c H1 locs1 (cells + mc) (slots + ms) Q (F0 m (pc + 3) ls rest)) : W p l e R s m args below meth c H locs cells slots Q (F0 m pc ls st0) := by
  intro T hT X
  obtain ⟨v, st₀, t, T', L, h0, X', hL, e1, e2, ⟨⟨ad, hv, hex, hP1, hD1⟩, hF⟩, st⟩ := hr T hT X
  cases hv
  have hxl : (ws ++ [x])[ws.length]? = some x := by rw [List.getElem?_append_right (Nat.le_refl _)]; simp
  have hin : ∀ q, va_A [x] H.size q → A q := by
    rintro q (⟨k, e9, h⟩ | h)
    · cases k with
      | zero =>
        have h2 : some x = some (q, e9) := h
        have h3 := hD.2 _ _ hxl
        rw [Option.some.inj h2] at h3
        exact h3
      | succ k => simp at h
    · exact hA q (Nat.le_trans hS.1 h)
  obtain ⟨k1, k2, k3⟩ := vx_keep (A0 := A) h0 e1 hS (fun q _ h => hin q h) hin hL hF
  have hws : ∀ (k : Nat) (q : Nat × va_E), ws[k]? = some q → q.1 < H.size ∧ ¬ va_A [x] H.size q.1 := by
    intro k q hq
    have hlk := (List.getElem?_eq_some_iff.mp hq).1
    have hq2 : (ws ++ [x])[k]? = some q := by rw [List.getElem?_append_left hlk]; exact hq
    have hlt := (hP k q hq2).lt
    refine ⟨hlt, ?_⟩
    rintro (⟨j, e9, h⟩ | h)
    · cases j with
      | zero =>
        have h2 : some x = some (q.1, e9) := h
        have h3 := hD.1 k ws.length q x hq2 hxl (by rw [Option.some.inj h2])
        omega
      | succ j => simp at h
    · omega
  have hPw : va_P D vwCl ws H := fun k q hq => hP k q (by rw [List.getElem?_append_left (List.getElem?_eq_some_iff.mp hq).1]; exact hq)
  have hDw : va_D A ws := ⟨fun i j p q hp hq e9 => hD.1 i j p q (by rw [List.getElem?_append_left (List.getElem?_eq_some_iff.mp hp).1]; exact hp) (by rw [List.getElem?_append_left (List.getElem?_eq_some_iff.mp hq).1]; exact hq) e9, fun k q hq => hD.2 k q (by rw [List.getElem?_append_left (List.getElem?_eq_some_iff.mp hq).1]; exact hq)⟩
  rw [← e1] at hP1
  obtain ⟨t2, a1, b1⟩ := kk ad T'.heap (locs ++ L) hex ((hPw.kept (fun k q hq => k2 q.1 (hws k q hq).1 (hws k q hq).2)).app hP1)
    (hDw.app (hD1.weaken (fun _ q _ h => hin q.1 h)) (fun i j y z hy hz e9 => (hws i y hy).2 (by rw [e9]; exact hD1.2 j z hz))) k3 T' rfl X'
  exact ⟨t2, st t2 a1, b1⟩
