/-! worlds by their addresses; the law's own at() -/
theorem xW_fst {cA : Nat → ClassId} {ad : Nat → Nat} {sh : List xSh} {M : xM} {i : Nat} {q : Nat × va_E} (h : (xW cA ad sh M)[i]? = some q) : i < sh.length ∧ q.1 = ad i := by
  simp only [xW, List.getElem?_mapIdx] at h
  cases hs : sh[i]? with
  | none => rw [hs] at h; cases h
  | some z =>
    rw [hs] at h
    cases h
    exact ⟨(List.getElem?_eq_some_iff.mp hs).1, rfl⟩
def aInj (n : Nat) (ad : Nat → Nat) : Prop := ∀ i, i < n → ∀ j, j < n → ad i = ad j → i = j
theorem xW_D {cA : Nat → ClassId} {ad : Nat → Nat} {sh : List xSh} {M : xM} {A : Nat → Prop} {n : Nat} (hn : sh.length = n) (h1 : ∀ i, i < n → A (ad i)) (h2 : aInj n ad) : va_D A (xW cA ad sh M) := by
  subst hn
  refine ⟨fun i j p q hp hq e => ?_, fun k q h => ?_⟩
  · obtain ⟨a1, a2⟩ := xW_fst hp
    obtain ⟨b1, b2⟩ := xW_fst hq
    exact h2 i a1 j b1 (by rw [← a2, ← b2]; exact e)
  · obtain ⟨a1, a2⟩ := xW_fst h
    rw [a2]; exact h1 k a1
theorem xW_Dc {cA : Nat → ClassId} {ad : Nat → Nat} {sh : List xSh} {M : xM} {A : Nat → Prop} {n o : Nat} {e : va_E} (hn : sh.length = n) (h1 : ∀ i, i < n → A (ad i)) (h2 : aInj n ad) (h3 : A o) (h4 : ∀ i, i < n → ad i ≠ o) : va_D A ((o, e) :: xW cA ad sh M) := by
  obtain ⟨d1, d2⟩ := xW_D (cA := cA) (M := M) (A := A) hn h1 h2
  subst hn
  refine ⟨fun i j p q hp hq e => ?_, fun k q h => ?_⟩
  · match i, j, hp, hq with
    | 0, 0, _, _ => rfl
    | 0, j + 1, hp, hq =>
      cases hp
      obtain ⟨b1, b2⟩ := xW_fst (by simpa using hq)
      exact absurd (b2.symm.trans e.symm) (h4 j b1)
    | i + 1, 0, hp, hq =>
      cases hq
      obtain ⟨b1, b2⟩ := xW_fst (by simpa using hp)
      exact absurd (b2.symm.trans e) (h4 i b1)
    | i + 1, j + 1, hp, hq => rw [d1 i j p q (by simpa using hp) (by simpa using hq) e]
  · match k, h with
    | 0, h => cases h; exact h3
    | k + 1, h => exact d2 k q (by simpa using h)
theorem xW_out {cA : Nat → ClassId} {ad : Nat → Nat} {sh : List xSh} {M : xM} {n sz q : Nat} (hn : sh.length = n) (h : ∀ i, i < n → ad i ≠ q) (hq : q < sz) : ¬ va_A (xW cA ad sh M) sz q := by
  subst hn
  rintro (⟨k, e, z⟩ | z)
  · obtain ⟨a1, a2⟩ := xW_fst z
    exact h k a1 a2.symm
  · omega
theorem xW_in {cA : Nat → ClassId} {ad : Nat → Nat} {sh : List xSh} {M : xM} {n sz q : Nat} (hn : sh.length = n) (h : va_A (xW cA ad sh M) sz q) : (∃ i, i < n ∧ q = ad i) ∨ sz ≤ q := by
  subst hn
  rcases h with ⟨k, e, z⟩ | z
  · obtain ⟨a1, a2⟩ := xW_fst z
    exact Or.inl ⟨k, a1, a2⟩
  · exact Or.inr z
theorem va_Pcons {D : va_G} {cl : List vw_C} {x : Nat × va_E} {w : va_W} {H : Heap} (h1 : va_at D cl x H) (h2 : va_P D cl w H) : va_P D cl (x :: w) H := fun k q hk => match k, hk with
  | 0, hk => by cases hk; exact h1
  | k + 1, hk => h2 k q (by simpa using hk)
theorem va_Ptl {D : va_G} {cl : List vw_C} {x : Nat × va_E} {w : va_W} {H : Heap} (h : va_P D cl (x :: w) H) : va_P D cl w H := fun k q hk => h (k + 1) q (by simpa using hk)
theorem shC_len : shC.length = 241 := by decide +kernel
theorem shM_len : shM.length = 23 := by decide +kernel
theorem va_Dtl {A : Nat → Prop} {x : Nat × va_E} {w : va_W} (h : va_D A (x :: w)) : va_D A w := ⟨fun i j p q h1 h2 e => by
    have := h.1 (i + 1) (j + 1) p q (by simpa using h1) (by simpa using h2) e
    omega, fun k q z => h.2 (k + 1) q (by simpa using z)⟩
theorem va_Dne {A : Nat → Prop} {x : Nat × va_E} {w : va_W} {sz : Nat} (h : va_D A (x :: w)) (hx : x.1 < sz) : ¬ va_A w sz x.1 := by
  rintro (⟨k, e, z⟩ | z)
  · have := h.1 0 (k + 1) x (x.1, e) rfl (by simpa using z) rfl
    omega
  · omega
theorem xOfWH {l : Launch} {y : MethodName} {ws ws' : List Cond} {rm : Room} {Pc : Array Value → State → Prop} {Qc : Array Value → State → Outcome → State → Prop} {mc ms : Nat} {free : Addr → Prop} {cc : ByteArray} {maxL : Nat} {ret : Option FieldType} {hh : List (Nat × Nat × Nat × Nat)}
    (hy : plainName y.cls = true) (hw : ws = Cond.codeWith y cc maxL ret hh :: ws')
    (body : ∀ p e s m args below meth c s₁, BodyLoose p l y (headSpec ws rm) cc maxL ret e s m args below meth c s₁ → c.maxLocals = maxL → c.exceptionTable.toList = tableOf hh → Pc args s →
      W p l e (headSpec ws rm).room s m args below meth c s.heap [] 0 0 (MQ below Qc args s mc ms free) (entryFrame m args maxL)) : Met l y ws rm Pc Qc mc ms free := by
  refine MetFree.of_bodyS (code := cc) (maxLocals := maxL) (ret := ret) hy ?_ ?_
  · intro args s m h hn
    obtain ⟨m9, meth, c, hn9, h1, h2, h3, h4, -, h5, h6, -⟩ := Cond.codeWith_spec (atoms_spec (ws := ws) h _ (by rw [hw]; exact List.mem_cons_self))
    cases hn.symm.trans hn9
    exact ⟨meth, c, h1, h2, h3, h4, h5, h6⟩
  · intro p e s m args below meth c s₁ B hml hP _
    have hh0 : s₁.heap = s.heap := by rw [B.state]; rfl
    obtain ⟨t, a1, o, b1, b2, b3⟩ := body p e s m args below meth c s₁ B hml (vx_table (x := y) B (atoms_spec (ws := ws) B.pre _ (by rw [hw]; exact List.mem_cons_self))) hP s₁ hh0 (Stand.of_body B)
    exact ⟨t, o, a1, b1, b2, ⟨b3.1, b3.2⟩⟩
abbrev hhL : List (Nat × Nat × Nat × Nat) := [(0, 9, 12, 13), (0, 9, 16, 15)]
def hwL : Cond := .codeWith yL_at cL_at 5 (some .int) hhL
def oL (cA : Nat → ClassId) (o : Nat) (f : Nat → Int64) : Nat × va_E := (o, .inl (cA 3, 1, .inr (.inl f)))
theorem mlL_7 : Cond.methodLink RL 7 yX9_at ∈ xtb := xinm (by decide +kernel) rfl
theorem klL_13 : Cond.classLink RL 13 xIA ∈ xtb := xinm (by decide +kernel) rfl
theorem klL_15 : Cond.classLink RL 15 xIS ∈ xtb := xinm (by decide +kernel) rfl
def qLat (D : va_G) (cA : Nat → ClassId) (ad : Nat → Nat) (o : Nat) (M : xM) (a : Nat × Int64) (A : Nat → Prop) : Array Value → State → Outcome → State → Prop := fun _ st oc t =>
  (∃ f2 : Nat → Int64, oc = .returned (some (.int (nI a.1))) ∧ (a.1 = 0 → f2 0 = a.2) ∧ va_P D vwCl (oL cA o f2 :: xW cA ad shC M) t.heap) ∧ va_F A st t
set_option maxHeartbeats 4000000 in
set_option maxRecDepth 100000 in
theorem c_Lat (l : Launch) (hlt : l.stackTraces = false) (D : va_G) (cA : Nat → ClassId) (ad : Nat → Nat) (o sz : Nat) {X : xX} {M : xM} (f : Nat → Int64) (x0 x1 : Int32) (hX : wX X) (hC : RepC X M) :
    Met l yL_at (hwL :: xtb) { frames := 7, cells := 1, slots := 6, locals := 120 } (va_Pc [.ref (ad 0), .int x0, .int x1, .ref o] (fun U => U.heap.size = sz ∧ va_P D vwCl (oL cA o f :: xW cA ad shC M) U.heap ∧ va_K D vwCl (xtys cA) U ∧ va_D (fun _ => True) (oL cA o f :: xW cA ad shC M) ∧ xZ (va_A (oL cA o f :: xW cA ad shC M) sz) U ∧ xZx (va_A (oL cA o f :: xW cA ad shC M) sz) U)) (qLat D cA ad o M (a_at X x0 x1) (va_A (oL cA o f :: xW cA ad shC M) sz)) 1 6 (va_A (oL cA o f :: xW cA ad shC M) sz) := by
  refine xOfWH (cc := cL_at) (maxL := 5) (ret := some .int) (hh := hhL) (by decide +kernel) rfl ?_
  intro p e s m args below meth c s₁ B hml htb hv
  obtain ⟨rfl, hsz, hP, hK, hD0, hZ, hZx⟩ := hv
  have hx := B.exec
  have hb := B.bytes
  have hr := B.returns
  have hts := atoms_spec (ws := hwL :: xtb) B.pre
  have hown : s.vm.findClass RL = some m.cls := findClass_of_methodNamed B.named
  have hlocks := B.notSynchronized
  subst hsz
  have hD := hD0.self (sz := s.heap.size)
  generalize hAe : va_A (oL cA o f :: xW cA ad shC M) s.heap.size = A at hD hZ hZx ⊢
  have hA : ∀ q : Nat, s.heap.size ≤ q → A q := fun q h => by rw [← hAe]; exact Or.inr h
  have hS : va_S A s.heap s.heap [] := va_S.rf
  have hl := lv_entry ([.ref (ad 0), .int x0, .int x1, .ref o]) (n := 5) (Nat.le_of_ble_eq_true rfl)
  rw [lg_entry_eq]
  generalize (lg_sl ([.ref (ad 0), .int x0, .int x1, .ref o]) ++ List.replicate (5 - (lg_sl ([.ref (ad 0), .int x0, .int x1, .ref o])).length) Slot.unset).toArray = ls at hl ⊢
  have hl : lv_has ls 5 [(0, .ref (ad 0)), (1, .int x0), (2, .int x1), (3, .ref o)] := hl
  have ht : ∀ w ∈ xtb, w.before ([.ref (ad 0), .int x0, .int x1, .ref o] : List Value).toArray s = true := fun w h => hts w (List.mem_cons_of_mem _ h)
  refine lv_aload_n hx hb dL_at_0 rfl (lv_at hl 3 rfl) ?_
  refine lv_iconst (v := 0) hx hb dL_at_1 (by decide) ?_
  refine lv_aload_n hx hb dL_at_2 rfl (lv_at hl 0 rfl) ?_
  refine lv_iload_n hx hb dL_at_3 rfl (lv_at hl 1 rfl) ?_
  refine lv_iload_n hx hb dL_at_4 rfl (lv_at hl 2 rfl) ?_
  have hPc := va_Ptl hP
  have hDc := va_Dtl hD
  have hF := xfree hDc hS hA
  have hM := xMetX (Z := mX9_at) (As := [.ref 0, .int x0, .int x1]) (by decide +kernel) rfl (Nat.le_of_ble_eq_true rfl)
    (cl_at (Q := fun r M' => M' = M ∧ (a_at X x0 x1).1 = 0 ∧ r = some (.long (a_at X x0 x1).2)) (QX := fun E M' => M' = M ∧ ((E = xIA ∧ (a_at X x0 x1).1 = 1) ∨ (E = xIS ∧ (a_at X x0 x1).1 = 2))) hX hC x0 x1 (fun h => ⟨rfl, h, rfl⟩) (fun h => ⟨rfl, Or.inl ⟨rfl, h⟩⟩) (fun h => ⟨rfl, Or.inr ⟨rfl, h⟩⟩)) l hlt D cA ad s.heap.size
  have hrv := va_recv hK hPc (q := (RX9, TX9, 15)) rfl (xW_at (cA := cA) (ad := ad) (M := M) cc0)
  have ho : (oL cA o f).1 < s.heap.size := (hP 0 _ rfl).lt
  have hno : ¬ va_A (xW cA ad shC M) s.heap.size o := va_Dne hD ho
  refine xgoT (vx_runV (C := RX9) (b := ad 0) (n := 2) (index := 7) (As := [.int x0, .int x1]) (rest := [.int 0, .ref o]) ⟨hx, hb, hml, hown, hts⟩ hM ⟨callB_of (bytes := cX9_at) (maxL := 4) (ret := some .long) 2 hts (xgoodX zX9_at.2.2.1) rfl rfl rfl (ht _ zX9_at.2.2.2.1) (ht _ mlL_7) zX9_at.2.1 ⟨by decide, by decide⟩, ht _ zX9_at.2.2.2.2.1, ht _ zX9_at.2.2.2.2.2⟩
    ⟨xblindX, hrv, fun U hU hW => ⟨rfl, by rw [hU], by rw [hU]; exact hPc, va_K.moved hW.alike hK, hDc.weaken (fun _ _ _ _ => trivial), xZ_to (locs := []) hZ hW (by rw [hU]; exact hS) hF, xZx_to (locs := []) hZx hW (by rw [hU]; exact hS) hF⟩⟩ rfl rfl hl.1 rfl (lv_room (Nat.le_of_ble_eq_true rfl)) dL_at_5 ⟨Nat.le_refl 1, Nat.le_refl 6⟩) hS hF (fun r M' H1 locs1 hq hP1 hD1 hS1 hkp hz => ?_) (fun E9 M' H1 locs1 q9 ce hq hP1 hD1 hS1 hkp hz hce hcv9 hcl => ?_)
  · obtain ⟨rfl, h0, rfl⟩ := hq
    have hP2 : va_P D vwCl (oL cA o f :: xW cA ad shC M') H1 := va_Pcons ((hP 0 _ rfl).kept (hkp o ho hno)) hP1
    have hin : vp_in 0 1 := by unfold vp_in; decide
    refine va_last (x := (a_at X x0 x1).2) (i := 0) hx hb hK hP2 hD hS1 0 3 rfl rfl hin dL_at_8 (fun H2 locs2 hP3 hD3 hS3 => ?_)
    refine lv_goto (tgt := 20) hx hb dL_at_9 (by decide) ?_
    refine lv_iconst (v := 0) hx hb dL_at_20 (by decide) ?_
    refine W.widen (k := 1) (n := 6) (by decide) (by decide) ?_
    exact W.iret (v := 0) hx hb hr (fun t ht hW => ⟨⟨_, by rw [h0]; rfl, fun _ => rfl, by rw [ht]; exact hP3⟩, hS3.F ht⟩) hS3.2.2 dL_at_21 hlocks
  · obtain ⟨rfl, hq⟩ := hq
    have hP2 : va_P D vwCl (oL cA o f :: xW cA ad shC M') H1 := va_Pcons ((hP 0 _ rfl).kept (hkp o ho hno)) hP1
    rcases hq with ⟨rfl, h1⟩ | ⟨rfl, h1⟩
    · refine vx_catch (own := RL) (name := xIA) hown [] ⟨0, 9, 12, 13⟩ [⟨0, 9, 16, 15⟩] htb (fun z hz => by cases hz) (by decide) (by decide) (ht _ klL_13) (xBad_use hZx.1 _ (by decide)) hce hcv9 hcl ?_
      refine lv_astore hx hb dL_at_12 hl (by decide) rfl (fun ls' hl' => ?_)
      refine lv_iconst (v := 1) hx hb dL_at_14 (by decide) ?_
      refine W.widen (k := 1) (n := 6) (by decide) (by decide) ?_
      exact W.iret (v := 1) hx hb hr (fun t ht hW => ⟨⟨f, by rw [h1]; rfl, fun z => absurd z (by omega), by rw [ht]; exact hP2⟩, hS1.F ht⟩) hS1.2.2 dL_at_15 hlocks
    · refine vx_catch (own := RL) (name := xIS) hown [⟨0, 9, 12, 13⟩] ⟨0, 9, 16, 15⟩ [] htb (fun z hz => by
        rcases List.mem_cons.mp hz with rfl | hz
        · exact Or.inr ⟨by decide, xIA, ht _ klL_13, hZx.2.2.2.2.2.2⟩
        · cases hz) (by decide) (by decide) (ht _ klL_15) (xBad_use hZx.1 _ (by decide)) hce hcv9 hcl ?_
      refine lv_astore hx hb dL_at_16 hl (by decide) rfl (fun ls' hl' => ?_)
      refine lv_iconst (v := 2) hx hb dL_at_18 (by decide) ?_
      refine W.widen (k := 1) (n := 6) (by decide) (by decide) ?_
      exact W.iret (v := 2) hx hb hr (fun t ht hW => ⟨⟨f, by rw [h1]; rfl, fun z => absurd z (by omega), by rw [ht]; exact hP2⟩, hS1.F ht⟩) hS1.2.2 dL_at_19 hlocks
theorem mo_thrown {M : xM} {Q : Option Value → xM → Prop} {v : Int32} (hv : M.1 0 0 = v) (h : Q (some (.int v)) M) : WP shM mX10_thrown 0 [some (.ref 0)] [] M Q :=
  xi_aload_n dX10_thrown_0 rfl (xe_getI dX10_thrown_1 fgX10_98 mm0 rfl hv (xi_iret dX10_thrown_4 rfl h))
