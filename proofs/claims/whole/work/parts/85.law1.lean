def R_law : String := "RunJudgeLaw"
def lw_P (b : Addr) (xs : List Int32) (args : Array Value) (s : State) : Prop := args = #[.ref b] ∧ s.IntsAt b xs ∧ xs.length ≤ 3072 ∧ (Jvm.Cond.and given_1 narrow_1).before args s = true
def lw_Q (_ : Array Value) (s : State) (o : Outcome) (t : State) : Prop := o = .returned (some (.int 1)) ∧ Framed s o t [] 601024 7293034
def lw_Z (below : List Frame) (a : Array Value) (s : State) : State → Prop := fun t => ∃ o, t.status = .running ∧ Ended t below o ∧ lw_Q a s o t
/-- the law's own end, with 1 on the stack, nothing written that was there before, its room as the claim has it -/
theorem lw_ret {p : Program} {l : Launch} {e : Env} {s : State} {m : MethodId} {below : List Frame} {meth : Method} {c : Code} {b : Nat} (hx : p.tables.exec = Jvm.exec) (hb : c.code = code) (hr : meth.sig.returnType = ret) (hlocks : meth.locks = false) {pc : Nat} {H : Heap} {ls : Array Slot} (hdg : decode code pc = .ok (.ireturn, 1)) : W p l e room_1 s m #[Value.ref b] below meth c H [] 601024 7293034 (lw_Z below #[Value.ref b] s) (F0 m pc ls [.int 1]) := by
  intro T hT X
  obtain ⟨fs, hret, hrun, hended, hW, hframe⟩ := X.leave (v := some (.int 1)) (hlocks := hlocks) (fun h => by rw [hr] at h; cases h)
  have hmeth' : T.vm.method? m = some meth := X.method'
  refine ⟨T.setFrames fs, ?_, .returned (some (.int 1)), hrun, hended, rfl, ⟨_, rfl⟩, hW, hframe⟩
  jvm_step X.here [X.here.top, hx, hb, hdg, hmeth', hr, ret, narrow_b1]
  (try refine ⟨rfl, ?_⟩); (try refine ⟨rfl, ?_⟩)
  first | (intro acts; rw [hret _ acts rfl rfl rfl]) | rw [hret _ _ rfl rfl rfl]
  exact Steps.refl _
/-- what holds at the law's entry: the machine, the code, the tables' words (any of lw_tbl by 'hts w (by decide +kernel)'), the script of L ints xs at the cell b, what the Statement gives of the start (any of its parts by flat_of_before) -/
def lw_At (p : Program) (s : State) (m : MethodId) (meth : Method) (c : Code) (b L : Nat) (xs : Nat → Int32) : Prop :=
  p.tables.exec = Jvm.exec ∧ c.code = code ∧ meth.sig.returnType = ret ∧ c.maxLocals = 8 ∧ s.vm.findClass R_law = some m.cls ∧ (∀ w ∈ lw_tbl, w.before #[Value.ref b] s = true) ∧ va_X b L xs s s.heap ∧ b < s.heap.size ∧ meth.locks = false ∧ (Jvm.Cond.and given_1 narrow_1).before #[Value.ref b] s = true
/-! the law's context, its heap, its calls -/
theorem xgoK {p : Program} {l : Launch} {e : Env} {R : Room} {s : State} {m : MethodId} {args : Array Value} {below : List Frame} {meth : Method} {c : Code} {H : Heap} {locs : List Loc} {Qf : State → Prop} {pc cells slots mc ms : Nat} {ls : Array Slot} {rest st0 : List Value} {a : Array Value} {A A1 : Nat → Prop} {D : va_G} {cA : Nat → ClassId} {ad : Nat → Nat} {sh : List xSh} {Q1 : Option Value → xM → Prop}
    (hr : va_Run p l e R s m args below meth c H locs cells slots mc ms (F0 m pc ls st0) rest (xQ D cA ad sh Q1 A1 a) A1) (hS : va_S A s.heap H locs) (hA : ∀ q, A1 q → A q)
    (kk : ∀ (r : Option Value) (M : xM) (H1 : Heap) (locs1 : List Loc), Q1 r M → va_P D vwCl (xW cA ad sh M) H1 → va_S A s.heap H1 locs1 → (∀ q, q < H.size → ¬ A1 q → H1[q]? = H[q]?) → W p l e R s m args below meth c H1 locs1 (cells + mc) (slots + ms) Qf (F0 m (pc + 3) ls ((r.map (xv ad)).toList ++ rest))) : W p l e R s m args below meth c H locs cells slots Qf (F0 m pc ls st0) := by
  intro T hT X
  obtain ⟨v, st₀, t, T', L, h0, X', hL, e1, e2, ⟨⟨r, M, hv, hp, hP, hK, hD⟩, hF⟩, st⟩ := hr T hT X
  cases hv
  obtain ⟨k1, k2, k3⟩ := vx_keep h0 e1 hS (fun q _ h => hA q h) hA hL hF
  obtain ⟨t2, a1, b1⟩ := kk r M T'.heap (locs ++ L) hp (by rw [e1]; exact hP) k3 k2 T' rfl X'
  exact ⟨t2, st t2 a1, b1⟩
def LD (s : State) (adC adM : Nat → Nat) (o : Nat) : Prop := (∀ i, i < 241 → s.heap.size ≤ adC i) ∧ (∀ i, i < 23 → s.heap.size ≤ adM i) ∧ s.heap.size ≤ o ∧ aInj 241 adC ∧ aInj 23 adM ∧ (∀ i, i < 241 → ∀ j, j < 23 → adC i ≠ adM j) ∧ (∀ i, i < 241 → adC i ≠ o) ∧ ∀ i, i < 23 → adM i ≠ o
abbrev lA (s : State) : Nat → Prop := fun q => s.heap.size ≤ q
def LK (p : Program) (l : Launch) (s : State) (m : MethodId) (meth : Method) (c : Code) (b L : Nat) (xs : Nat → Int32) (D : va_G) (cA : Nat → ClassId) (adC adM : Nat → Nat) (o : Nat) : Prop := lw_At p s m meth c b L xs ∧ l.stackTraces = false ∧ va_K D vwCl (xtys cA) s ∧ xZ (lA s) s ∧ xZx (lA s) s ∧ LD s adC adM o
def LH (D : va_G) (cA : Nat → ClassId) (adC adM : Nat → Nat) (o : Nat) (s : State) (MC MM : xM) (f : Nat → Int64) (H : Heap) (locs : List Loc) : Prop := va_P D vwCl (xW cA adC shC MC) H ∧ va_P D vwCl (xW cA adM shM MM) H ∧ va_at D vwCl (oL cA o f) H ∧ va_S (lA s) s.heap H locs
theorem xgoodL {Z : xY} (h : Cond.code Z.1 Z.2.1 Z.2.2.1 Z.2.2.2.1 ∈ xtb) : GoodIn lw_tbl (xws Z) := by
  have key : ∀ w ∈ xtb, w ∈ lw_tbl ∧ ((w.onTables && w.keeps) = true ∨ ∃ ty, w = .arrayClass ty) := fun w hw => ⟨(List.mem_filter.mp hw).1, good_of_word (List.mem_filter.mp hw).2⟩
  intro w hw
  rcases List.mem_cons.mp hw with rfl | hw
  · exact key _ h
  · exact key _ hw
section LAW
variable {p : Program} {l : Launch} {e : Env} {s : State} {m : MethodId} {below : List Frame} {meth : Method} {c : Code} {b L : Nat} {xs : Nat → Int32} {D : va_G} {cA : Nat → ClassId} {adC adM : Nat → Nat} {o : Nat} {MC MM : xM} {f : Nat → Int64} {H : Heap} {locs : List Loc} {Qf : State → Prop} {pc cells slots : Nat} {ls : Array Slot} {st : List Value}
/-- what the callee's world is not stays: the class's call -/
theorem LH_C (K : LD s adC adM o) (X : LH D cA adC adM o s MC MM f H locs) {MC' : xM} {H1 : Heap} {locs1 : List Loc} (hP : va_P D vwCl (xW cA adC shC MC') H1) (hS : va_S (lA s) s.heap H1 locs1) (hk : ∀ q, q < H.size → ¬ va_A (xW cA adC shC MC) H.size q → H1[q]? = H[q]?) : LH D cA adC adM o s MC' MM f H1 locs1 := by
  obtain ⟨k1, k2, k3, k4, k5, k6, k7, k8⟩ := K
  obtain ⟨x1, x2, x3, x4⟩ := X
  refine ⟨hP, x2.kept (fun k q h => ?_), x3.kept ?_, hS⟩
  · obtain ⟨a1, a2⟩ := xW_fst h
    rw [shM_len] at a1
    refine hk _ (x2 k q h).lt (xW_out shC_len (fun i hi => ?_) (x2 k q h).lt)
    rw [a2]; exact k6 i hi k a1
  · exact hk _ x3.lt (xW_out shC_len k7 x3.lt)
theorem LH_M (K : LD s adC adM o) (X : LH D cA adC adM o s MC MM f H locs) {MM' : xM} {H1 : Heap} {locs1 : List Loc} (hP : va_P D vwCl (xW cA adM shM MM') H1) (hS : va_S (lA s) s.heap H1 locs1) (hk : ∀ q, q < H.size → ¬ va_A (xW cA adM shM MM) H.size q → H1[q]? = H[q]?) : LH D cA adC adM o s MC MM' f H1 locs1 := by
  obtain ⟨k1, k2, k3, k4, k5, k6, k7, k8⟩ := K
  obtain ⟨x1, x2, x3, x4⟩ := X
  refine ⟨x1.kept (fun k q h => ?_), hP, x3.kept ?_, hS⟩
  · obtain ⟨a1, a2⟩ := xW_fst h
    rw [shC_len] at a1
    refine hk _ (x1 k q h).lt (xW_out shM_len (fun i hi z => ?_) (x1 k q h).lt)
    exact k6 k a1 i hi (by rw [z]; exact a2.symm)
  · exact hk _ x3.lt (xW_out shM_len k8 x3.lt)
theorem law_C (K : LK p l s m meth c b L xs D cA adC adM o) (X : LH D cA adC adM o s MC MM f H locs) {Z : xY} {n idx : Nat} {lv0 : List (Option Value)} {st0 : List Value} (As rest : List Value)
    (hd : decode cL_law pc = .ok (.invokevirtual idx, 3)) (hZ : xZv Z n) (hl : Cond.methodLink RL idx Z.1 ∈ xtb) (hcl : Z.1.cls = RX9) (hn : As.length = n) (hst : st0 = As.reverse ++ .ref (adC 0) :: rest) (hAs : ∀ ad, As.map (xv ad) = As) (hen : xen (.ref 0 :: As) Z.2.2.1 = lv0) (hsz : (xex (.ref 0 :: As)).length ≤ Z.2.2.1) (hcat : (rest.map fun v => v.category).sum ≤ 8) (hls : ls.size = 8)
    (hR : Z.2.2.2.2.1 + 1 ≤ 12 ∧ 8 + (Z.2.2.1 + 11) + Z.2.2.2.2.2 ≤ 508) (hcs : cells ≤ 601024 ∧ slots ≤ 7293034)
    (k : WP shC Z 0 lv0 [] MC (fun r M' => ∀ H1 locs1, LH D cA adC adM o s M' MM f H1 locs1 → W p l e room_1 s m #[.ref b] below meth c H1 locs1 cells slots Qf (F0 m (pc + 3) ls ((r.map (xv adC)).toList ++ rest)))) :
    W p l e room_1 s m #[.ref b] below meth c H locs cells slots Qf (F0 m pc ls st0) := by
  obtain ⟨⟨hx, hb, hr, hml, hown, hts, hX, hbl, hlocks, hgv⟩, hlt, hK, hZ0, hZx, hLD⟩ := K
  obtain ⟨hP, hP2, hP3, hS⟩ := id X
  have hD := xW_D (cA := cA) (M := MC) (A := lA s) shC_len hLD.1 hLD.2.2.2.1
  have hF := xfree hD hS (fun _ h => h)
  have hM := xMet hZ.1 hen hsz k l D cA adC H.size
  have ht : ∀ w ∈ xtb, w.before #[Value.ref b] s = true := fun w h => hts w (List.mem_filter.mp h).1
  have hrv := va_recv hK hP (q := (RX9, TX9, 15)) rfl (xW_at (cA := cA) (ad := adC) (M := MC) cc0)
  rw [show (RX9, TX9, 15).1 = Z.1.cls from hcl.symm] at hrv
  have hAs' := hAs adC
  refine xgoK (va_runV (C := Z.1.cls) (b := adC 0) (n := n) (index := idx) (As := As.map (xv adC)) (rest := rest) ⟨hx, hb, hml, hown, hts⟩ hM ⟨callB_of (bytes := Z.2.1) (maxL := Z.2.2.1) (ret := Z.2.2.2.1) n hts (xgoodL hZ.2.2.1) rfl rfl rfl (ht _ hZ.2.2.2.1) (ht _ hl) hZ.2.1 hR, ht _ hZ.2.2.2.2.1, ht _ hZ.2.2.2.2.2⟩
    ⟨xblind, hrv, fun U hU hW => ⟨rfl, by rw [hU], by rw [hU]; exact hP, va_K.moved hW.alike hK, hD.weaken (fun _ _ _ _ => trivial), xZ_to (locs := locs) hZ0 hW (by rw [hU]; exact hS) hF⟩⟩ rfl (by rw [List.length_map]; exact hn) hls (by rw [hst, hAs']) (lv_room hcat) hd hcs) hS hF (fun r M' H1 locs1 hq hP1 hS1 hkp => hq H1 locs1 (LH_C hLD X hP1 hS1 hkp))
theorem law_M (K : LK p l s m meth c b L xs D cA adC adM o) (X : LH D cA adC adM o s MC MM f H locs) {Z : xY} {n idx : Nat} {lv0 : List (Option Value)} {st0 : List Value} (As rest : List Value)
    (hd : decode cL_law pc = .ok (.invokevirtual idx, 3)) (hZ : xZv Z n) (hl : Cond.methodLink RL idx Z.1 ∈ xtb) (hcl : Z.1.cls = RX10) (hn : As.length = n) (hst : st0 = As.reverse ++ .ref (adM 0) :: rest) (hAs : ∀ ad, As.map (xv ad) = As) (hen : xen (.ref 0 :: As) Z.2.2.1 = lv0) (hsz : (xex (.ref 0 :: As)).length ≤ Z.2.2.1) (hcat : (rest.map fun v => v.category).sum ≤ 8) (hls : ls.size = 8)
    (hR : Z.2.2.2.2.1 + 1 ≤ 12 ∧ 8 + (Z.2.2.1 + 11) + Z.2.2.2.2.2 ≤ 508) (hcs : cells ≤ 601024 ∧ slots ≤ 7293034)
    (k : WP shM Z 0 lv0 [] MM (fun r M' => ∀ H1 locs1, LH D cA adC adM o s MC M' f H1 locs1 → W p l e room_1 s m #[.ref b] below meth c H1 locs1 cells slots Qf (F0 m (pc + 3) ls ((r.map (xv adM)).toList ++ rest)))) :
    W p l e room_1 s m #[.ref b] below meth c H locs cells slots Qf (F0 m pc ls st0) := by
  obtain ⟨⟨hx, hb, hr, hml, hown, hts, hX, hbl, hlocks, hgv⟩, hlt, hK, hZ0, hZx, hLD⟩ := K
  obtain ⟨hP2, hP, hP3, hS⟩ := id X
  have hD := xW_D (cA := cA) (M := MM) (A := lA s) shM_len hLD.2.1 hLD.2.2.2.2.1
  have hF := xfree hD hS (fun _ h => h)
  have hM := xMet hZ.1 hen hsz k l D cA adM H.size
  have ht : ∀ w ∈ xtb, w.before #[Value.ref b] s = true := fun w h => hts w (List.mem_filter.mp h).1
  have hrv := va_recv hK hP (q := (RX10, TX10, 38)) rfl (xW_at (cA := cA) (ad := adM) (M := MM) mm0)
  rw [show (RX10, TX10, 38).1 = Z.1.cls from hcl.symm] at hrv
  have hAs' := hAs adM
  refine xgoK (va_runV (C := Z.1.cls) (b := adM 0) (n := n) (index := idx) (As := As.map (xv adM)) (rest := rest) ⟨hx, hb, hml, hown, hts⟩ hM ⟨callB_of (bytes := Z.2.1) (maxL := Z.2.2.1) (ret := Z.2.2.2.1) n hts (xgoodL hZ.2.2.1) rfl rfl rfl (ht _ hZ.2.2.2.1) (ht _ hl) hZ.2.1 hR, ht _ hZ.2.2.2.2.1, ht _ hZ.2.2.2.2.2⟩
    ⟨xblind, hrv, fun U hU hW => ⟨rfl, by rw [hU], by rw [hU]; exact hP, va_K.moved hW.alike hK, hD.weaken (fun _ _ _ _ => trivial), xZ_to (locs := locs) hZ0 hW (by rw [hU]; exact hS) hF⟩⟩ rfl (by rw [List.length_map]; exact hn) hls (by rw [hst, hAs']) (lv_room hcat) hd hcs) hS hF (fun r M' H1 locs1 hq hP1 hS1 hkp => hq H1 locs1 (LH_M hLD X hP1 hS1 hkp))
/-- script[i + j] -/
theorem law_arg (K : LK p l s m meth c b L xs D cA adC adM o) (X : va_S (lA s) s.heap H locs) {lv : List (Nat × Value)} {i j a0 a4 : Nat} (hl : lv_has ls 8 lv) (h0 : lv[a0]? = some (0, .ref b)) (h4 : lv[a4]? = some (4, .int (nI i))) (hL : L < 2 ^ 31) (hi : i + j < L) (hj : j < 6)
    (d0 : decode cL_law pc = .ok (.aload_n 0, 1)) (d1 : decode cL_law (pc + 1) = .ok (.iload 4, 2)) (d3 : decode cL_law (pc + 3) = .ok (.iconst j, 1)) (d4 : decode cL_law (pc + 4) = .ok (.iadd, 1)) (d5 : decode cL_law (pc + 5) = .ok (.iaload, 1))
    (kk : W p l e room_1 s m #[.ref b] below meth c H locs cells slots Qf (F0 m (pc + 6) ls (.int (xs (i + j)) :: st))) : W p l e room_1 s m #[.ref b] below meth c H locs cells slots Qf (F0 m pc ls st) := by
  obtain ⟨⟨hx, hb, hr, hml, hown, hts, hX, hbl, hlocks, hgv⟩, hlt, hK, hZ0, hZx, hLD⟩ := K
  refine lv_aload_n hx hb d0 rfl (lv_at hl a0 h0) ?_
  refine lv_iload hx hb d1 (lv_at hl a4 h4) ?_
  refine lv_iconst (v := nI j) hx hb d3 (by rcases (show j = 0 ∨ j = 1 ∨ j = 2 ∨ j = 3 ∨ j = 4 ∨ j = 5 by omega) with rfl | rfl | rfl | rfl | rfl | rfl <;> rfl) ?_
  refine lv_iadd hx hb d4 ?_
  rw [nI_add]
  refine va_sld hx hb hX hbl (Nat.not_le.mpr hbl) X (vp_in_nI hi hL) d5 ?_
  rw [nI_clamp (by omega)]
  exact kk
end LAW
