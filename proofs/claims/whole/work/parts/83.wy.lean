/-! methods that may throw, called; toss, throwFailure, at -/
theorem xblindX {sh : List xSh} {D : va_G} {cA : Nat → ClassId} {ad : Nat → Nat} {M : xM} {sz : Nat} {av : List Value} : FrameBlind (va_Pc av (fun U => U.heap.size = sz ∧ va_P D vwCl (xW cA ad sh M) U.heap ∧ va_K D vwCl (xtys cA) U ∧ va_D (fun _ => True) (xW cA ad sh M) ∧ xZ (va_A (xW cA ad sh M) sz) U ∧ xZx (va_A (xW cA ad sh M) sz) U)) := by
  intro a U g mk q
  obtain ⟨q0, q1, qP, qK, qD, ⟨z0, t, z1, z2⟩, zx⟩ := q
  exact ⟨q0, q1, qP, va_K.moved (u := U) (U := U.calling g mk a) (Vm.Alike.refl U.vm) qK, qD, ⟨va_Nw.same (u := U) (U := U.calling g mk a) rfl rfl z0, t, va_Z.moved (u := U) (U := U.calling g mk a) (Vm.Alike.refl U.vm) z1, va_T.moved (u := U) (U := U.calling g mk a) (Vm.Alike.refl U.vm) z2⟩, xZx_calling zx⟩
theorem xMetX {sh : List xSh} {Z : xY} {As : List Value} {lv0 : List (Option Value)} {M : xM} {Q : Option Value → xM → Prop} {QX : String → xM → Prop} (hp : plainName Z.1.cls = true) (hen : xen As Z.2.2.1 = lv0) (hsz : (xex As).length ≤ Z.2.2.1) (h : WX (.code Z.1 Z.2.1 Z.2.2.1 Z.2.2.2.1) [] 0 sh Z 0 lv0 [] M Q QX) (l : Launch) (hlt : l.stackTraces = false) (D : va_G) (cA : Nat → ClassId) (ad : Nat → Nat) (sz : Nat) :
    vx_Met l Z.1 (xws Z) (xrx Z) (va_Pc (As.map (xv ad)) (fun U => U.heap.size = sz ∧ va_P D vwCl (xW cA ad sh M) U.heap ∧ va_K D vwCl (xtys cA) U ∧ va_D (fun _ => True) (xW cA ad sh M) ∧ xZ (va_A (xW cA ad sh M) sz) U ∧ xZx (va_A (xW cA ad sh M) sz) U)) (xQ D cA ad sh Q (va_A (xW cA ad sh M) sz)) (xXC D cA ad sh QX (va_A (xW cA ad sh M) sz)) 1 6 (va_A (xW cA ad sh M) sz) := by
  refine vx_ofW (cc := Z.2.1) (maxL := Z.2.2.1) (ret := Z.2.2.2.1) hp rfl ?_
  intro p e s m args below meth c s₁ B hml htb hv
  obtain ⟨rfl, hsz', hP, hK, hD0, hZ, hZx⟩ := hv
  subst hsz'
  have hts := atoms_spec (ws := xws Z) B.pre
  have hown := findClass_of_methodNamed B.named
  have hl := xL_entry (ad := ad) (As := As) hsz
  rw [lg_entry_eq]
  rw [hen] at hl
  exact h l D cA ad p e s m _ below meth c s.heap [] (va_A (xW cA ad sh M) s.heap.size) _ ⟨hlt, hZx, List.eq_nil_iff_forall_not_mem.mpr htb⟩ ⟨B.exec, B.bytes, hml, B.returns, B.notSynchronized, hown, hts, hK, hZ, fun q h => Or.inr h⟩ ⟨hP, hD0.self, va_S.rf, hl⟩
theorem xMetH {sh : List xSh} {Z : xY} {hh : List (Nat × Nat × Nat × Nat)} {As : List Value} {lv0 : List (Option Value)} {M : xM} {Q : Option Value → xM → Prop} {QX : String → xM → Prop} (hp : plainName Z.1.cls = true) (hen : xen As Z.2.2.1 = lv0) (hsz : (xex As).length ≤ Z.2.2.1) (h : WX (.codeWith Z.1 Z.2.1 Z.2.2.1 Z.2.2.2.1 hh) (tableOf hh) 0 sh Z 0 lv0 [] M Q QX) (l : Launch) (hlt : l.stackTraces = false) (D : va_G) (cA : Nat → ClassId) (ad : Nat → Nat) (sz : Nat) :
    vx_Met l Z.1 (.codeWith Z.1 Z.2.1 Z.2.2.1 Z.2.2.2.1 hh :: xtb) (xrx Z) (va_Pc (As.map (xv ad)) (fun U => U.heap.size = sz ∧ va_P D vwCl (xW cA ad sh M) U.heap ∧ va_K D vwCl (xtys cA) U ∧ va_D (fun _ => True) (xW cA ad sh M) ∧ xZ (va_A (xW cA ad sh M) sz) U ∧ xZx (va_A (xW cA ad sh M) sz) U)) (xQ D cA ad sh Q (va_A (xW cA ad sh M) sz)) (xXC D cA ad sh QX (va_A (xW cA ad sh M) sz)) 1 6 (va_A (xW cA ad sh M) sz) := by
  refine vx_ofWH (cc := Z.2.1) (maxL := Z.2.2.1) (ret := Z.2.2.2.1) (hh := hh) hp rfl ?_
  intro p e s m args below meth c s₁ B hml hv
  obtain ⟨rfl, hsz', hP, hK, hD0, hZ, hZx⟩ := hv
  subst hsz'
  have hts := atoms_spec (ws := .codeWith Z.1 Z.2.1 Z.2.2.1 Z.2.2.2.1 hh :: xtb) B.pre
  have hown := findClass_of_methodNamed B.named
  have hl := xL_entry (ad := ad) (As := As) hsz
  rw [lg_entry_eq]
  rw [hen] at hl
  exact h l D cA ad p e s m _ below meth c s.heap [] (va_A (xW cA ad sh M) s.heap.size) _ ⟨hlt, hZx, vx_table (x := Z.1) B (hts _ List.mem_cons_self)⟩ ⟨B.exec, B.bytes, hml, B.returns, B.notSynchronized, hown, hts, hK, hZ, fun q h => Or.inr h⟩ ⟨hP, hD0.self, va_S.rf, hl⟩
/-- behind a call that may throw; what lies outside the callee's world stays -/
theorem xgoT {p : Program} {l : Launch} {e : Env} {R : Room} {s : State} {m : MethodId} {args : Array Value} {below : List Frame} {meth : Method} {c : Code} {H : Heap} {locs : List Loc} {Qf : State → Prop} {pc cells slots mc ms : Nat} {ls : Array Slot} {rest st0 : List Value} {a : Array Value} {A A1 : Nat → Prop} {D : va_G} {cA : Nat → ClassId} {ad : Nat → Nat} {sh : List xSh} {Q1 : Option Value → xM → Prop} {QX1 : String → xM → Prop}
    (hr : vx_Run p l e R s m args below meth c H locs cells slots mc ms (F0 m pc ls st0) rest (xQ D cA ad sh Q1 A1 a) (xXC D cA ad sh QX1 A1) A1) (hS : va_S A s.heap H locs) (hA : ∀ q, A1 q → A q)
    (kk : ∀ (r : Option Value) (M : xM) (H1 : Heap) (locs1 : List Loc), Q1 r M → va_P D vwCl (xW cA ad sh M) H1 → va_D A1 (xW cA ad sh M) → va_S A s.heap H1 locs1 → (∀ q, q < H.size → ¬ A1 q → H1[q]? = H[q]?) → H.size ≤ H1.size → W p l e R s m args below meth c H1 locs1 (cells + mc) (slots + ms) Qf (F0 m (pc + 3) ls ((r.map (xv ad)).toList ++ rest)))
    (kx : ∀ (E : String) (M : xM) (H1 : Heap) (locs1 : List Loc) (q9 : Addr) (ce : Cell), QX1 E M → va_P D vwCl (xW cA ad sh M) H1 → va_D A1 (xW cA ad sh M) → va_S A s.heap H1 locs1 → (∀ q, q < H.size → ¬ A1 q → H1[q]? = H[q]?) → H.size ≤ H1.size → H1[q9]? = some ce → ce.vm = .none → s.vm.findClass E = some ce.cls → vx_W p l e R s m args below meth c H1 locs1 (cells + mc) (slots + ms) Qf (F0 m pc ls rest) q9) : W p l e R s m args below meth c H locs cells slots Qf (F0 m pc ls st0) := by
  intro T hT X
  rcases hr T hT X with ⟨v, st₀, t, T', L, h0, X', hL, e1, e2, ⟨⟨r, M, hv, hp, hP, hK, hD⟩, hF⟩, st⟩ | ⟨q, st₀, t, T', L, E, ce, h0, X', hL, e1, e2, ⟨M, hp, ⟨hP, hK, hD⟩, hF⟩, hce, hcv, hcl, st⟩
  · cases hv
    obtain ⟨k1, k2, k3⟩ := vx_keep h0 e1 hS (fun q _ h => hA q h) hA hL hF
    obtain ⟨t2, a1, b1⟩ := kk r M T'.heap (locs ++ L) hp (by rw [e1]; exact hP) hD k3 k2 k1 T' rfl X'
    exact ⟨t2, st t2 a1, b1⟩
  · obtain ⟨k1, k2, k3⟩ := vx_keep h0 e1 hS (fun q _ h => hA q h) hA hL hF
    obtain ⟨t2, a1, b1⟩ := kx E M T'.heap (locs ++ L) q ce hp (by rw [e1]; exact hP) hD k3 k2 k1 (by rw [e1]; exact hce) hcv hcl T' rfl X'
    exact ⟨t2, st.trans a1, b1⟩
theorem xL_st0 {ad : Nat → Nat} {nL i : Nat} {lv : List (Option Value)} {ls' : Array Slot} {v : Value} (h : lv_has ls' nL ((i, v) :: (xas ad 0 lv).filter (fun q => !(q.1 == i) && !(q.1 + 1 == i && q.2.category == 2)))) (h1 : ∀ w, lv[i]? ≠ some (some w)) (h2 : ∀ w, lv[i - 1]? = some (some w) → ¬ w.category = 2) : xL ad nL lv ls' := by
  refine ⟨h.1, h.2.1, fun k w hk => ?_⟩
  have hm := xas_in (ad := ad) lv 0 k w hk
  rw [Nat.zero_add] at hm
  refine h.2.2 (k, xv ad w) (List.mem_cons_of_mem _ (List.mem_filter.mpr ⟨hm, ?_⟩))
  simp only [xv_cat]
  have n0 : k ≠ i := fun e => h1 w (by rw [← e]; exact hk)
  have n1 : (k == i) = false := by simpa using n0
  rw [n1]
  by_cases z : k + 1 = i
  · have : ¬ w.category = 2 := h2 w (by rw [← z]; exact hk)
    simp [this]
  · simp [z]
/-- a callee that may throw E, whose handler here takes E, puts it away and goes on -/
theorem xy_callT {hw : Cond} {sh : List xSh} {Y : xY} {pc : Nat} {lv : List (Option Value)} {M : xM} {Q : Option Value → xM → Prop} {QX : String → xM → Prop} {Z : xY} {n idx ci o sp ep hp ct i : Nat} {ks : List (Option Nat)} {w : vw_C} {st0 : List Value} {lv0 : List (Option Value)} {nm : String} (As st : List Value)
    (hd : decode Y.2.1 pc = .ok (.invokevirtual idx, 3)) (hpl : plainName Z.1.cls = true) (hZ : xZv Z n) (hl : Cond.methodLink Y.1.cls idx Z.1 ∈ xtb) (hs : sh[o]? = some (.inl (ci, ks))) (hc : vwCl[ci]? = some w) (hw1 : w.1 = Z.1.cls) (hn : As.length = n) (hst : st0 = As.reverse ++ .ref o :: st) (hen : xen (.ref o :: As) Z.2.2.1 = lv0) (hsz : (xex (.ref o :: As)).length ≤ Z.2.2.1) (hcat : (st.map fun v => v.category).sum ≤ 8)
    (hR : Z.2.2.2.2.1 + 1 ≤ Y.2.2.2.2.1 ∧ 8 + (Z.2.2.1 + 11) + Z.2.2.2.2.2 ≤ Y.2.2.2.2.2)
    (hcv : covers (⟨sp, ep, hp, ct⟩ : ExceptionTableEntry) pc = true) (hct : ct ≠ 0) (hlk : Cond.classLink Y.1.cls ct nm ∈ xtb) (hca : Cond.castable nm nm ∈ xBad) (hda : decode Y.2.1 hp = .ok (.astore i, 2)) (hi : i < Y.2.2.1) (hi1 : ∀ w, lv[i]? ≠ some (some w)) (hi2 : ∀ w, lv[i - 1]? = some (some w) → ¬ w.category = 2)
    (k : WX (.code Z.1 Z.2.1 Z.2.2.1 Z.2.2.2.1) [] 0 sh Z 0 lv0 [] M (fun r M' => WX hw [⟨sp, ep, hp, ct⟩] 1 sh Y (pc + 3) lv (r.toList ++ st) M' Q QX) (fun E M' => E = nm ∧ WX hw [⟨sp, ep, hp, ct⟩] 1 sh Y (hp + 2) lv [] M' Q QX)) : WX hw [⟨sp, ep, hp, ct⟩] 0 sh Y pc lv st0 M Q QX := by
  intro l D cA ad p e s m args below meth c H locs A ls E C X
  obtain ⟨hx, hb, hml, hr, hlk0, hown, hts, hK, hZ0, hA⟩ := id C
  obtain ⟨hP, hD, hS, hL⟩ := id X
  have hF := xfree hD hS hA
  have hM := xMetX hpl hen hsz k l E.1 D cA ad H.size
  have hcatm : ((st.map (xv ad)).map fun v => v.category) = st.map fun v => v.category := by
    rw [List.map_map]; exact List.map_congr_left (fun v _ => xv_cat ad v)
  have ht : ∀ w ∈ xtb, w.before args s = true := fun w h => hts w (List.mem_cons_of_mem _ h)
  have hrv := va_recv hK hP hc (xW_at (cA := cA) (ad := ad) (M := M) hs)
  rw [hw1] at hrv
  refine xgoT (vx_runV (C := Z.1.cls) (b := ad o) (n := n) (index := idx) (As := As.map (xv ad)) (rest := st.map (xv ad)) ⟨hx, hb, hml, hown, hts⟩ hM ⟨callB_of (bytes := Z.2.1) (maxL := Z.2.2.1) (ret := Z.2.2.2.1) n hts (xgoodX hZ.2.2.1) rfl rfl rfl (ht _ hZ.2.2.2.1) (ht _ hl) hZ.2.1 hR, ht _ hZ.2.2.2.2.1, ht _ hZ.2.2.2.2.2⟩
    ⟨xblindX, hrv, fun U hU hW => ⟨rfl, by rw [hU], by rw [hU]; exact hP, va_K.moved hW.alike hK, hD.weaken (fun _ _ _ _ => trivial), xZ_to (locs := locs) hZ0 hW (by rw [hU]; exact hS) hF, xZx_to (locs := locs) E.2.1 hW (by rw [hU]; exact hS) hF⟩⟩ rfl (by rw [List.length_map]; exact hn) hL.1 (by rw [hst]; simp [xv]) (lv_room (by rw [hcatm]; exact hcat)) hd ⟨Nat.le_refl 1, Nat.le_refl 6⟩) hS hF (fun r M' H1 locs1 hq hP1 hD1 hS1 _ _ => ?_) (fun E9 M' H1 locs1 q9 ce hq hP1 hD1 hS1 _ _ hce hcv9 hcl => ?_)
  · have h9 := hq l D cA ad p e s m args below meth c H1 locs1 A ls E C ⟨hP1, hD1.weaken (fun _ q _ h => hF q.1 h), hS1, hL⟩
    rw [show (r.map (xv ad)).toList ++ st.map (xv ad) = (r.toList ++ st).map (xv ad) by cases r <;> simp]
    exact h9
  · obtain ⟨rfl, hk⟩ := hq
    refine vx_catch (own := Y.1.cls) (name := E9) hown [] ⟨sp, ep, hp, ct⟩ [] E.2.2 (fun z hz => by cases hz) hcv hct (ht _ hlk) (xBad_use E.2.1.1 _ hca) hce hcv9 hcl ?_
    refine lv_astore hx hb hda (xL_has hL) hi rfl (fun ls' hl' => ?_)
    exact hk l D cA ad p e s m args below meth c H1 locs1 A ls' E C ⟨hP1, hD1.weaken (fun _ q _ h => hF q.1 h), hS1, xL_st0 hl' hi1 hi2⟩
abbrev mX8_throwFailure : xY := (yX8_throwFailure, cX8_throwFailure, 1, none, 6, 90)
abbrev mX9_at : xY := (yX9_at, cX9_at, 4, (some .long), 6, 90)
abbrev mX9_toss : xY := (yX9_toss, cX9_toss, 5, (some .int), 7, 120)
theorem zX8_throwFailure : xZv mX8_throwFailure 0 := ⟨plainFor_of_name (by decide +kernel), ⟨by decide +kernel, by decide +kernel, by decide +kernel⟩, xinm (by decide +kernel) rfl, xinm (by decide +kernel) rfl, xinm (by decide +kernel) rfl, xinm (by decide +kernel) rfl⟩
theorem zX9_at : xZv mX9_at 2 := ⟨plainFor_of_name (by decide +kernel), ⟨by decide +kernel, by decide +kernel, by decide +kernel⟩, xinm (by decide +kernel) rfl, xinm (by decide +kernel) rfl, xinm (by decide +kernel) rfl, xinm (by decide +kernel) rfl⟩
theorem mlX9_424 : Cond.methodLink RX9 424 yX8_throwFailure ∈ xtb := xinm (by decide +kernel) rfl
theorem klX8_50 : Cond.classLink RX8 50 xIS ∈ xtb := xinm (by decide +kernel) rfl
theorem klX9_397 : Cond.classLink RX9 397 xIA ∈ xtb := xinm (by decide +kernel) rfl
theorem klX9_407 : Cond.classLink RX9 407 xIS ∈ xtb := xinm (by decide +kernel) rfl
theorem kiS : Cond.initialized xIS ∈ xtb := xinm (by decide +kernel) rfl
theorem kiA : Cond.initialized xIA ∈ xtb := xinm (by decide +kernel) rfl
def hwC (Z : xY) : Cond := .code Z.1 Z.2.1 Z.2.2.1 Z.2.2.2.1
theorem t_fail {M : xM} {Q : Option Value → xM → Prop} {QX : String → xM → Prop} {r n : Nat} (hr : isTp r) (ht : M.1 r 2 = nI n) (hn : n < 2 ^ 31) (h0 : n = 0 → Q none M) (h1 : ¬ n = 0 → QX xIS M) : WX (hwC mX8_throwFailure) [] 0 shC mX8_throwFailure 0 [some (.ref r)] [] M Q QX := by
  refine xy_aload_n dX8_throwFailure_0 rfl ?_
  refine xy_getI dX8_throwFailure_1 fgX8_43 (tpo hr) rfl ?_
  rw [ht]
  refine xy_if_le 17 dX8_throwFailure_4 (by decide) (fun z => ?_) (fun z => ?_)
  · refine xy_vret dX8_throwFailure_17 rfl (by decide) (h0 ?_)
    rcases Nat.eq_zero_or_pos n with e | e
    · exact e
    · exact absurd z (nI_nle e hn)
  · refine xy_throwS (own := RX8) (text := "the failure of a view") rfl (by decide +kernel) rfl klX8_50 kiS (fun A U h => h.2.2.2.1) xok1 dX8_throwFailure_7 dX8_throwFailure_10 dX8_throwFailure_11 dX8_throwFailure_13 dX8_throwFailure_16 ⟨by decide, by decide⟩ (h1 (fun e => z (by rw [e]; decide)))
abbrev hhT : List (Nat × Nat × Nat × Nat) := [(21, 25, 28, 407)]
def hwT : Cond := .codeWith yX9_toss cX9_toss 5 (some .int) hhT
set_option maxHeartbeats 4000000 in
set_option maxRecDepth 100000 in
theorem cl_toss {X : xX} {M : xM} {Q : Option Value → xM → Prop} {QX : String → xM → Prop} (hX : wX X) (hC : RepC X M) (x0 : Int32) (h : ∀ M2, RepC (st_toss X x0).2 M2 → Q (some (.int (st_toss X x0).1)) M2) : WX hwT [⟨21, 25, 28, 407⟩] 0 shC mX9_toss 0 [some (.ref 0), some (.int x0), none, none, none] [] M Q QX := by
  obtain ⟨G, S0, now, late, risk, A, L, sq, nl, rf, hr, lg, w, tp⟩ := X
  obtain ⟨hW, hw0, wn, wl, wr, wA_, wsq, wnl, wmo, wtk, wwt, wtp, wO0, wB0⟩ := id hX
  obtain ⟨hG, hKF, hKR, hL, hKE, hKS, hKW, hKT, hKM⟩ := id hC
  obtain ⟨hno, hla, hri, hnl, hrf, hhr⟩ := id hKM
  refine xy_aload_n dX9_toss_0 rfl ?_
  refine xy_iload_n dX9_toss_1 rfl ?_
  refine xy_iconst (v := nI 5) dX9_toss_2 rfl ?_
  refine xy_iconst (v := nI 5) dX9_toss_3 rfl ?_
  refine xy_callV [.int x0, .int (nI 5), .int (nI 5)] [] dX9_toss_4 zX9_refuseBut mlX9_382 cc0 rfl rfl rfl rfl rfl (Nat.le_of_ble_eq_true rfl) (Nat.le_of_ble_eq_true rfl) ⟨by decide, by decide⟩ (by decide) ?_
  have bad : ∀ (v : Int32) (M2 : xM), ¬ (0 : Int32) ≤ v → Q (some (.int v)) M2 → WX hwT [⟨21, 25, 28, 407⟩] 0 shC mX9_toss 7 [some (.ref 0), some (.int x0), none, none, none] [.int v] M2 Q QX := by
    intro v M2 hv hq
    refine xy_istore_n (lv' := [some (.ref 0), some (.int x0), some (.int v), none, none]) dX9_toss_7 (by decide) rfl ?_
    refine xy_iload_n dX9_toss_8 rfl ?_
    refine xy_if_ge 14 dX9_toss_9 (by decide) (fun z => absurd z hv) (fun _ => ?_)
    refine xy_iload_n dX9_toss_12 rfl ?_
    exact xy_iret dX9_toss_13 rfl (by decide) hq
  rcases xix_cases x0 (n := 6) (by omega) with ⟨ec0, hc0⟩ | ⟨k0, hk0, rfl, ec0⟩
  · refine c_but0 hc0 ?_
    simp only [st_toss, ec0] at h
    exact bad _ _ (by decide) (h M hC)
  have q0 := hKT k0 hk0
  obtain ⟨wt1, wt2, wt3, wt4⟩ := wtp k0
  by_cases hs0 : (tp k0).1 = 0
  · simp only [st_toss, ec0, if_pos hs0] at h
    refine c_butA hX hC hk0 ⟨by decide, by decide⟩ hs0 (fun M2 hM2 => ?_)
    exact bad _ _ (by decide) (h M2 hM2)
  by_cases hs5 : (tp k0).1 = 5
  case neg =>
    simp only [st_toss, ec0, if_neg hs0, if_pos hs5] at h
    refine c_butB hX hC hk0 ⟨by decide, by decide⟩ hs0 (by omega) (fun M2 hM2 => ?_)
    exact bad _ _ (by decide) (h M2 hM2)
  simp only [st_toss, ec0, if_neg hs0, if_neg (not_not_intro hs5)] at h
  refine c_butC hX hC hk0 ⟨by decide, by decide⟩ hs0 (by omega) ?_
  refine xy_istore_n (lv' := [some (.ref 0), some (.int (nI k0)), some (.int 0), none, none]) dX9_toss_7 (by decide) rfl ?_
  refine xy_iload_n dX9_toss_8 rfl ?_
  refine xy_if_ge 14 dX9_toss_9 (by decide) (fun _ => ?_) (fun z => absurd (by decide) z)
  refine xy_aload_n dX9_toss_14 rfl ?_
  refine xy_getR dX9_toss_15 fgX9_60 cc0 rfl ?_
  refine xy_iload_n dX9_toss_18 rfl ?_
  refine xy_aald6 (j := 43 + 3 * k0) dX9_toss_19 cc21 (vp_in_nI hk0 (by decide)) (by rw [nI_clamp (by omega)]; exact if_pos (by omega)) ?_
  refine xy_astore_n (lv' := [some (.ref 0), some (.int (nI k0)), some (.int 0), some (.ref (43 + 3 * k0)), none]) dX9_toss_20 (by decide) rfl ?_
  refine xy_aload_n dX9_toss_21 rfl ?_
  refine xy_callT (i := 4) (nm := xIS) [] [] dX9_toss_22 (by decide +kernel) zX8_throwFailure mlX9_424 (tpo (isTp_d hk0)) rfl rfl rfl rfl rfl (Nat.le_of_ble_eq_true rfl) (Nat.le_of_ble_eq_true rfl) ⟨by decide, by decide⟩ (by decide) (by decide) klX9_407 (by decide) dX9_toss_28 (by decide) (fun w z => by cases z) (fun w z => by cases z; exact (by decide : ¬ (1 : Nat) = 2)) ?_
  refine t_fail (n := (tp k0).2.2.1) (isTp_d hk0) q0.2.2.1 (by omega) (fun z => ?_) (fun z => ⟨rfl, ?_⟩)
  · rw [if_pos z] at h
    refine xy_goto 35 dX9_toss_25 (by decide) ?_
    refine xy_aload_n dX9_toss_35 rfl ?_
    refine xy_bipush (v := (-15)) dX9_toss_36 rfl ?_
    refine xy_callV [.int (-15)] [] dX9_toss_38 zX9_refuse mlX9_369 cc0 rfl rfl rfl rfl rfl (Nat.le_of_ble_eq_true rfl) (Nat.le_of_ble_eq_true rfl) ⟨by decide, by decide⟩ (by decide) ?_
    refine c_refuse hhr ?_
    exact xy_iret dX9_toss_41 rfl (by decide) (h _ (RepC_ref hC))
  · rw [if_neg z] at h
    refine xy_aload_n dX9_toss_30 rfl ?_
    refine xy_getI dX9_toss_31 fgX9_379 (tpo (isTp_d hk0)) rfl ?_
    rw [q0.2.2.1]
    exact xy_iret dX9_toss_34 rfl (by decide) (h M hC)
set_option maxHeartbeats 4000000 in
set_option maxRecDepth 100000 in
theorem cl_at {X : xX} {M : xM} {Q : Option Value → xM → Prop} {QX : String → xM → Prop} (hX : wX X) (hC : RepC X M) (x0 x1 : Int32) (h0 : (a_at X x0 x1).1 = 0 → Q (some (.long (a_at X x0 x1).2)) M) (h1 : (a_at X x0 x1).1 = 1 → QX xIA M) (h2 : (a_at X x0 x1).1 = 2 → QX xIS M) : WX (hwC mX9_at) [] 0 shC mX9_at 0 [some (.ref 0), some (.int x0), some (.int x1), none] [] M Q QX := by
  obtain ⟨G, S0, now, late, risk, A, L, sq, nl, rf, hr, lg, w, tp⟩ := X
  obtain ⟨hW, hw0, wn, wl, wr, wA_, wsq, wnl, wmo, wtk, wwt, wtp, wO0, wB0⟩ := id hX
  obtain ⟨hG, hKF, hKR, hL, hKE, hKS, hKW, hKT, hKM⟩ := id hC
  refine xy_iload_n dX9_at_0 rfl ?_
  refine xy_callS [.int x0] [] dX9_at_1 zX9_isTape mlX9_363 rfl rfl rfl (Nat.le_of_ble_eq_true rfl) (Nat.le_of_ble_eq_true rfl) ⟨by decide, by decide⟩ (by decide) ?_
  rcases xix_cases x0 (n := 6) (by omega) with ⟨ec0, hc0⟩ | ⟨k0, hk0, rfl, ec0⟩
  · refine g_isTpF hc0 ?_
    refine xy_if_ne 18 dX9_at_4 (by decide) (fun z => absurd (by decide) z) (fun _ => ?_)
    refine xy_throwSW (own := RX9) (text := "no such tape") rfl (by decide +kernel) rfl klX9_397 kiA (fun A U h => h.2.2.2.2.1) xok2 dX9_at_7 dX9_at_10 dX9_at_11 dX9_at_14 dX9_at_17 ⟨by decide, by decide⟩ (h1 (by simp only [a_at, ec0]))
  have q0 := hKT k0 hk0
  obtain ⟨wt1, wt2, wt3, wt4⟩ := wtp k0
  refine g_isTpT hk0 ?_
  refine xy_if_ne 18 dX9_at_4 (by decide) (fun _ => ?_) (fun z => absurd z (by decide))
  refine xy_aload_n dX9_at_18 rfl ?_
  refine xy_getR dX9_at_19 fgX9_60 cc0 rfl ?_
  refine xy_iload_n dX9_at_22 rfl ?_
  refine xy_aald6 (j := 43 + 3 * k0) dX9_at_23 cc21 (vp_in_nI hk0 (by decide)) (by rw [nI_clamp (by omega)]; exact if_pos (by omega)) ?_
  refine xy_astore_n (lv' := [some (.ref 0), some (.int (nI k0)), some (.int x1), some (.ref (43 + 3 * k0))]) dX9_at_24 (by decide) rfl ?_
  refine xy_aload_n dX9_at_25 rfl ?_
  refine xy_callV [] [] dX9_at_26 zX8_isRow mlX9_404 (tpo (isTp_d hk0)) rfl rfl rfl rfl rfl (Nat.le_of_ble_eq_true rfl) (Nat.le_of_ble_eq_true rfl) ⟨by decide, by decide⟩ (by decide) ?_
  refine t_isRow (isTp_d hk0) q0.1 wt1 ?_
  have hthr : (a_at (G, S0, now, late, risk, A, L, sq, nl, rf, hr, lg, w, tp) (nI k0) x1).1 = 2 → WX (hwC mX9_at) [] 0 shC mX9_at 40 [some (.ref 0), some (.int (nI k0)), some (.int x1), some (.ref (43 + 3 * k0))] [] M Q QX := fun z =>
    xy_throwSW (own := RX9) (text := "no row with such a place") rfl (by decide +kernel) rfl klX9_407 kiS (fun A U h => h.2.2.2.2.2.1) xok3 dX9_at_40 dX9_at_43 dX9_at_44 dX9_at_47 dX9_at_50 ⟨by decide, by decide⟩ (h2 z)
  by_cases hrow : 1 ≤ (tp k0).1 ∧ (tp k0).1 ≤ 4
  case neg =>
    rw [decide_eq_false hrow]
    refine xy_if_eq 40 dX9_at_29 (by decide) (fun _ => ?_) (fun z => absurd (by decide) z)
    exact hthr (by simp only [a_at, ec0]; rw [if_pos (by omega)])
  rw [decide_eq_true hrow]
  refine xy_if_eq 40 dX9_at_29 (by decide) (fun z => absurd z (by decide)) (fun _ => ?_)
  refine xy_aload_n dX9_at_32 rfl ?_
  refine xy_iload_n dX9_at_33 rfl ?_
  refine xy_callV [.int x1] [] dX9_at_34 zX8_hasPlace mlX9_386 (tpo (isTp_d hk0)) rfl rfl rfl rfl rfl (Nat.le_of_ble_eq_true rfl) (Nat.le_of_ble_eq_true rfl) ⟨by decide, by decide⟩ (by decide) ?_
  rcases xix_cases x1 (n := (tp k0).2.1) (by omega) with ⟨ec1, hc1⟩ | ⟨k1, hk1, rfl, ec1⟩
  · refine t_hasF (isTp_d hk0) q0.2.1 hc1 wt2 ?_
    refine xy_if_ne 51 dX9_at_37 (by decide) (fun z => absurd (by decide) z) (fun _ => ?_)
    exact hthr (by simp only [a_at, ec0, ec1]; rw [if_neg (by omega)])
  · refine t_hasT (isTp_d hk0) q0.2.1 hk1 wt2 ?_
    refine xy_if_ne 51 dX9_at_37 (by decide) (fun _ => ?_) (fun z => absurd z (by decide))
    refine xy_aload_n dX9_at_51 rfl ?_
    refine xy_getR dX9_at_52 fgX9_389 (tpo (isTp_d hk0)) rfl ?_
    refine xy_iload_n dX9_at_55 rfl ?_
    have hk8 : k1 < 80 := by omega
    refine xy_lald dX9_at_56 (tpa (isTp_d hk0)) (vp_in_nI hk8 (by decide)) ?_
    rw [nI_clamp (by omega), q0.2.2.2.1 k1 hk8]
    have e : a_at (G, S0, now, late, risk, A, L, sq, nl, rf, hr, lg, w, tp) (nI k0) (nI k1) = (0, (tp k0).2.2.2.1 k1) := by simp only [a_at, ec0, ec1]; rw [if_neg (by omega)]
    rw [e] at h0
    exact xy_lret dX9_at_57 rfl (by decide) (h0 rfl)
