def xXa (own : String) (ic : Nat) (E : String) : List Cond := vx_atS own ic E ["java/lang/RuntimeException", "java/lang/Exception"]
def xIS : String := "java/lang/IllegalStateException"
def xIA : String := "java/lang/IllegalArgumentException"
def xBad : List Cond := [.castable xIS xIS, .castable xIA xIA, .declares ⟨"java/lang/RuntimeException", "<init>", "(Ljava/lang/String;)V"⟩, .declares ⟨"java/lang/Exception", "<init>", "(Ljava/lang/String;)V"⟩, .declares ⟨"java/lang/Throwable", "<init>", "(Ljava/lang/String;)V"⟩]
/-- a word of a throw: a good one of the tables, or one of the five -/
def xok (w : Cond) : Bool := (goodWord w && decide (w ∈ tables_1)) || decide (w ∈ xBad)
theorem xok1 : (xXa RX8 54 xIS).all (fun w => xok w && vx_ot w) = true := by decide +kernel
theorem xok2 : (xXa RX9 401 xIA).all (fun w => xok w && vx_ot w) = true := by decide +kernel
theorem xok3 : (xXa RX9 411 xIS).all (fun w => xok w && vx_ot w) = true := by decide +kernel
theorem xBad_in : xBad.all (fun w => decide (w ∈ tables_1) && w.onTables) = true := by decide +kernel
theorem xBad_warm {s U : State} (hW : s.WarmedH U.vm) (h : ∀ w ∈ xBad, va_Nw w s) : ∀ w ∈ xBad, va_Nw w U := by
  intro w hw
  have h1 := h w hw
  simp only [xBad, List.mem_cons, List.not_mem_nil, or_false] at hw
  rcases hw with rfl | rfl | rfl | rfl | rfl
  · exact va_Nw.warmC hW h1
  · exact va_Nw.warmC hW h1
  · exact va_Nw.warmD hW h1
  · exact va_Nw.warmD hW h1
  · exact va_Nw.warmD hW h1
theorem xBad_use {A : Array Value} {U : State} (h : ∀ w ∈ xBad, va_Nw w U) : ∀ w ∈ xBad, w.before A U = true := by
  intro w hw
  have h2 := List.all_eq_true.mp xBad_in w hw
  simp only [Bool.and_eq_true, decide_eq_true_eq] at h2
  exact va_Nw.use h2.2 (h w hw)
theorem xok_use {A : Array Value} {U : State} {L : List Cond} (hL : L.all (fun w => xok w && vx_ot w) = true) (h1 : ∀ w ∈ xtb, w.before A U = true) (h2 : ∀ w ∈ xBad, va_Nw w U) : ∀ w ∈ L, w.before A U = true := by
  intro w hw
  have h3 := List.all_eq_true.mp hL w hw
  simp only [xok, Bool.and_eq_true, Bool.or_eq_true, decide_eq_true_eq] at h3
  rcases h3.1 with h | h
  · exact h1 w (xinm h.2 h.1)
  · exact xBad_use h2 w h
/-- what a throw asks of the heap and the tables -/
def xZx (A : Nat → Prop) (U : State) : Prop := (∀ w ∈ xBad, va_Nw w U) ∧ vx_Zq Bundle.tN "UNASSIGNED_STACK" Bundle.steD A U U.heap ∧ vx_Zq Bundle.tN "SUPPRESSED_SENTINEL" Bundle.listD A U U.heap ∧ (∃ a, vk_R RX8 52 "the failure of a view" a U) ∧ (∃ a, vk_R RX9 399 "no such tape" a U) ∧ (∃ a, vk_R RX9 409 "no row with such a place" a U) ∧ va_Nc xIS xIA U
theorem xZx_to {A B : Nat → Prop} {s U : State} {locs : List Loc} (h : xZx A s) (hW : s.WarmedH U.vm) (hS : va_S A s.heap U.heap locs) (hB : ∀ q, B q → A q) : xZx B U := by
  obtain ⟨h0, h1, h2, ⟨a3, h3⟩, ⟨a4, h4⟩, ⟨a5, h5⟩, h6⟩ := h
  exact ⟨xBad_warm hW h0, ((h1.kept hS.2.1).narrow hB).moved hW.alike, ((h2.kept hS.2.1).narrow hB).moved hW.alike, ⟨a3, vk_R.warm hW h3⟩, ⟨a4, vk_R.warm hW h4⟩, ⟨a5, vk_R.warm hW h5⟩, va_Nc.moved hW.alike h6⟩
theorem xZx_calling {A : Nat → Prop} {U : State} {g : JFrame} {mk : MethodId} {a : Array Value} (h : xZx A U) : xZx A (U.calling g mk a) := by
  have hW : U.WarmedH (U.calling g mk a).vm := State.WarmedH.refl U
  exact xZx_to (locs := []) h hW (va_S.rf (A := A)) (fun _ h => h)
def xrx (Y : xY) : Room := { frames := Y.2.2.2.2.1, cells := 1, slots := 6, locals := Y.2.2.2.2.2 }
def xCx (p : Program) (s : State) (m : MethodId) (args : Array Value) (meth : Method) (c : Code) (Y : xY) (D : va_G) (cA : Nat → ClassId) (A : Nat → Prop) (hw : Cond) : Prop :=
  p.tables.exec = Jvm.exec ∧ c.code = Y.2.1 ∧ c.maxLocals = Y.2.2.1 ∧ meth.sig.returnType = Y.2.2.2.1 ∧ meth.locks = false ∧ s.vm.findClass Y.1.cls = some m.cls ∧ (∀ w ∈ hw :: xtb, w.before args s = true) ∧ va_K D vwCl (xtys cA) s ∧ xZ A s ∧ ∀ q : Nat, s.heap.size ≤ q → A q
def xXC (D : va_G) (cA : Nat → ClassId) (ad : Nat → Nat) (sh : List xSh) (QX : String → xM → Prop) (A : Nat → Prop) : String → State → State → Prop := fun E st t =>
  ∃ M : xM, QX E M ∧ (va_P D vwCl (xW cA ad sh M) t.heap ∧ va_K D vwCl (xtys cA) t ∧ va_D A (xW cA ad sh M)) ∧ va_F A st t
def WX (hw : Cond) (TB : List ExceptionTableEntry) (k9 : Nat) (sh : List xSh) (Y : xY) (pc : Nat) (lv : List (Option Value)) (st : List Value) (M : xM) (Q : Option Value → xM → Prop) (QX : String → xM → Prop) : Prop :=
  ∀ (l : Launch) (D : va_G) (cA : Nat → ClassId) (ad : Nat → Nat) (p : Program) (e : Env) (s : State) (m : MethodId) (args : Array Value) (below : List Frame) (meth : Method) (c : Code) (H : Heap) (locs : List Loc) (A : Nat → Prop) (ls : Array Slot),
    (l.stackTraces = false ∧ xZx A s ∧ c.exceptionTable.toList = TB) → xCx p s m args meth c Y D cA A hw → xHp s D cA ad A H locs ls sh Y.2.2.1 lv M →
    W p l e (xrx Y) s m args below meth c H locs k9 (6 * k9) (vx_MQ below (xQ D cA ad sh Q A) (xXC D cA ad sh QX A) args s 1 6 A) (F0 m pc ls (st.map (xv ad)))
section XX
variable {hw : Cond} {TB : List ExceptionTableEntry} {k9 : Nat} {sh : List xSh} {Y : xY} {pc : Nat} {lv : List (Option Value)} {st : List Value} {M : xM} {Q : Option Value → xM → Prop} {QX : String → xM → Prop}
theorem xy_iconst {n : Int} {v : Int32} (hd : decode Y.2.1 pc = .ok (.iconst n, 1)) (hv : Int32.ofInt n = v) (k : WX hw TB k9 sh Y (pc + 1) lv (.int v :: st) M Q QX) : WX hw TB k9 sh Y pc lv (st) M Q QX := by
  intro l D cA ad p e s m args below meth c H locs A ls E C X
  exact lv_iconst C.1 C.2.1 hd hv (k l D cA ad p e s m args below meth c H locs A ls E C X)
theorem xy_bipush {n : Int} {v : Int32} (hd : decode Y.2.1 pc = .ok (.bipush n, 2)) (hv : (Int8.ofInt n).toInt32 = v) (k : WX hw TB k9 sh Y (pc + 2) lv (.int v :: st) M Q QX) : WX hw TB k9 sh Y pc lv (st) M Q QX := by
  intro l D cA ad p e s m args below meth c H locs A ls E C X
  exact lv_bipush C.1 C.2.1 hd hv (k l D cA ad p e s m args below meth c H locs A ls E C X)
theorem xy_iload_n {k : Fin 4} {x : Int32} (hd : decode Y.2.1 pc = .ok (.iload_n k, 1)) (hl : lv[(k : Nat)]? = some (some (.int x))) (k : WX hw TB k9 sh Y (pc + 1) lv (.int x :: st) M Q QX) : WX hw TB k9 sh Y pc lv (st) M Q QX := by
  intro l D cA ad p e s m args below meth c H locs A ls E C X
  exact lv_iload_n C.1 C.2.1 hd rfl (X.2.2.2.2.2 _ _ hl) (k l D cA ad p e s m args below meth c H locs A ls E C X)
theorem xy_iload {i : Nat} {x : Int32} (hd : decode Y.2.1 pc = .ok (.iload i, 2)) (hl : lv[i]? = some (some (.int x))) (k : WX hw TB k9 sh Y (pc + 2) lv (.int x :: st) M Q QX) : WX hw TB k9 sh Y pc lv (st) M Q QX := by
  intro l D cA ad p e s m args below meth c H locs A ls E C X
  exact lv_iload C.1 C.2.1 hd (X.2.2.2.2.2 _ _ hl) (k l D cA ad p e s m args below meth c H locs A ls E C X)
theorem xy_aload_n {k : Fin 4} {x : Nat} (hd : decode Y.2.1 pc = .ok (.aload_n k, 1)) (hl : lv[(k : Nat)]? = some (some (.ref x))) (k : WX hw TB k9 sh Y (pc + 1) lv (.ref x :: st) M Q QX) : WX hw TB k9 sh Y pc lv (st) M Q QX := by
  intro l D cA ad p e s m args below meth c H locs A ls E C X
  exact lv_aload_n C.1 C.2.1 hd rfl (X.2.2.2.2.2 _ _ hl) (k l D cA ad p e s m args below meth c H locs A ls E C X)
theorem xy_aload {i : Nat} {x : Nat} (hd : decode Y.2.1 pc = .ok (.aload i, 2)) (hl : lv[i]? = some (some (.ref x))) (k : WX hw TB k9 sh Y (pc + 2) lv (.ref x :: st) M Q QX) : WX hw TB k9 sh Y pc lv (st) M Q QX := by
  intro l D cA ad p e s m args below meth c H locs A ls E C X
  exact lv_aload C.1 C.2.1 hd (X.2.2.2.2.2 _ _ hl) (k l D cA ad p e s m args below meth c H locs A ls E C X)
theorem xy_istore_n {lv' : List (Option Value)} {k : Fin 4} {x : Int32} (hd : decode Y.2.1 pc = .ok (.istore_n k, 1)) (hn : (k : Nat) < Y.2.2.1) (h' : xst1 lv (k : Nat) (.int x) = lv') (k : WX hw TB k9 sh Y (pc + 1) lv' st M Q QX) : WX hw TB k9 sh Y pc lv (.int x :: st) M Q QX := by
  intro l D cA ad p e s m args below meth c H locs A ls E C X
  subst h'
  exact lv_istore_n C.1 C.2.1 hd rfl (xL_has X.2.2.2) hn rfl (fun ls' hl' => k l D cA ad p e s m args below meth c H locs A ls' E C ⟨X.1, X.2.1, X.2.2.1, xL_st1 hl'⟩)
theorem xy_astore_n {lv' : List (Option Value)} {k : Fin 4} {x : Nat} (hd : decode Y.2.1 pc = .ok (.astore_n k, 1)) (hn : (k : Nat) < Y.2.2.1) (h' : xst1 lv (k : Nat) (.ref x) = lv') (k : WX hw TB k9 sh Y (pc + 1) lv' st M Q QX) : WX hw TB k9 sh Y pc lv (.ref x :: st) M Q QX := by
  intro l D cA ad p e s m args below meth c H locs A ls E C X
  subst h'
  exact lv_astore_n C.1 C.2.1 hd rfl (xL_has X.2.2.2) hn rfl (fun ls' hl' => k l D cA ad p e s m args below meth c H locs A ls' E C ⟨X.1, X.2.1, X.2.2.1, xL_st1 hl'⟩)
theorem xy_astore {lv' : List (Option Value)} {i : Nat} {x : Nat} (hd : decode Y.2.1 pc = .ok (.astore i, 2)) (hn : i < Y.2.2.1) (h' : xst1 lv i (.ref x) = lv') (k : WX hw TB k9 sh Y (pc + 2) lv' st M Q QX) : WX hw TB k9 sh Y pc lv (.ref x :: st) M Q QX := by
  intro l D cA ad p e s m args below meth c H locs A ls E C X
  subst h'
  exact lv_astore C.1 C.2.1 hd (xL_has X.2.2.2) hn rfl (fun ls' hl' => k l D cA ad p e s m args below meth c H locs A ls' E C ⟨X.1, X.2.1, X.2.2.1, xL_st1 hl'⟩)
theorem xy_if_eq {x : Int32} {off : Int} (tgt : Nat) (hd : decode Y.2.1 pc = .ok (.ifCond .eq off, 3)) (ht : (pc : Int) + off = (tgt : Int)) (kt : x = 0 → WX hw TB k9 sh Y tgt lv st M Q QX) (kf : ¬ x = 0 → WX hw TB k9 sh Y (pc + 3) lv st M Q QX) : WX hw TB k9 sh Y pc lv (.int x :: st) M Q QX := by
  intro l D cA ad p e s m args below meth c H locs A ls E C X
  exact lv_if_eq C.1 C.2.1 hd ht (fun h => kt h l D cA ad p e s m args below meth c H locs A ls E C X) (fun h => kf h l D cA ad p e s m args below meth c H locs A ls E C X)
theorem xy_if_ne {x : Int32} {off : Int} (tgt : Nat) (hd : decode Y.2.1 pc = .ok (.ifCond .ne off, 3)) (ht : (pc : Int) + off = (tgt : Int)) (kt : ¬ x = 0 → WX hw TB k9 sh Y tgt lv st M Q QX) (kf : x = 0 → WX hw TB k9 sh Y (pc + 3) lv st M Q QX) : WX hw TB k9 sh Y pc lv (.int x :: st) M Q QX := by
  intro l D cA ad p e s m args below meth c H locs A ls E C X
  exact lv_if_ne C.1 C.2.1 hd ht (fun h => kt h l D cA ad p e s m args below meth c H locs A ls E C X) (fun h => kf h l D cA ad p e s m args below meth c H locs A ls E C X)
theorem xy_if_ge {x : Int32} {off : Int} (tgt : Nat) (hd : decode Y.2.1 pc = .ok (.ifCond .ge off, 3)) (ht : (pc : Int) + off = (tgt : Int)) (kt : 0 ≤ x → WX hw TB k9 sh Y tgt lv st M Q QX) (kf : ¬ 0 ≤ x → WX hw TB k9 sh Y (pc + 3) lv st M Q QX) : WX hw TB k9 sh Y pc lv (.int x :: st) M Q QX := by
  intro l D cA ad p e s m args below meth c H locs A ls E C X
  exact lv_if_ge C.1 C.2.1 hd ht (fun h => kt h l D cA ad p e s m args below meth c H locs A ls E C X) (fun h => kf h l D cA ad p e s m args below meth c H locs A ls E C X)
theorem xy_if_le {x : Int32} {off : Int} (tgt : Nat) (hd : decode Y.2.1 pc = .ok (.ifCond .le off, 3)) (ht : (pc : Int) + off = (tgt : Int)) (kt : x ≤ 0 → WX hw TB k9 sh Y tgt lv st M Q QX) (kf : ¬ x ≤ 0 → WX hw TB k9 sh Y (pc + 3) lv st M Q QX) : WX hw TB k9 sh Y pc lv (.int x :: st) M Q QX := by
  intro l D cA ad p e s m args below meth c H locs A ls E C X
  exact lv_if_le C.1 C.2.1 hd ht (fun h => kt h l D cA ad p e s m args below meth c H locs A ls E C X) (fun h => kf h l D cA ad p e s m args below meth c H locs A ls E C X)
theorem xy_goto {off : Int} (tgt : Nat) (hd : decode Y.2.1 pc = .ok (.goto off, 3)) (ht : (pc : Int) + off = (tgt : Int)) (k : WX hw TB k9 sh Y tgt lv st M Q QX) : WX hw TB k9 sh Y pc lv st M Q QX := by
  intro l D cA ad p e s m args below meth c H locs A ls E C X
  exact lv_goto C.1 C.2.1 hd ht (k l D cA ad p e s m args below meth c H locs A ls E C X)
theorem xy_getI {o ci k idx : Nat} {ks : List (Option Nat)} (hd : decode Y.2.1 pc = .ok (.getfield idx, 3)) (hf : xFd Y.1.cls idx ci k) (hs : sh[o]? = some (.inl (ci, ks))) (hk : ks[k]? = some none) (kk : WX hw TB k9 sh Y (pc + 3) lv (.int (M.1 o k) :: st) M Q QX) : WX hw TB k9 sh Y pc lv (.ref o :: st) M Q QX := by
  intro l D cA ad p e s m args below meth c H locs A ls E C X
  obtain ⟨C1, T, N, hc, hN, hT, hl, hin⟩ := hf
  exact va_get (v := .int (M.1 o k)) C.1 C.2.1 C.2.2.2.2.2.2.1 (fun w h => List.mem_cons_of_mem _ (hin w h)) C.2.2.2.2.2.1 C.2.2.2.2.2.2.2.1 X.1 o (xW_at hs) hc k hN (C.2.2.2.2.2.2.1 _ (List.mem_cons_of_mem _ hl)) (fun x h => by rw [← hT]; exact h) (xF_at hk) hd (kk l D cA ad p e s m args below meth c H locs A ls E C X)
theorem xy_getR {o ci k idx j : Nat} {ks : List (Option Nat)} (hd : decode Y.2.1 pc = .ok (.getfield idx, 3)) (hf : xFd Y.1.cls idx ci k) (hs : sh[o]? = some (.inl (ci, ks))) (hk : ks[k]? = some (some j)) (kk : WX hw TB k9 sh Y (pc + 3) lv (.ref j :: st) M Q QX) : WX hw TB k9 sh Y pc lv (.ref o :: st) M Q QX := by
  intro l D cA ad p e s m args below meth c H locs A ls E C X
  obtain ⟨C1, T, N, hc, hN, hT, hl, hin⟩ := hf
  exact va_get (v := .ref (ad j)) C.1 C.2.1 C.2.2.2.2.2.2.1 (fun w h => List.mem_cons_of_mem _ (hin w h)) C.2.2.2.2.2.1 C.2.2.2.2.2.2.2.1 X.1 o (xW_at hs) hc k hN (C.2.2.2.2.2.2.1 _ (List.mem_cons_of_mem _ hl)) (fun x h => by rw [← hT]; exact h) (xF_atR hk) hd (kk l D cA ad p e s m args below meth c H locs A ls E C X)
theorem xy_aald6 {a n j : Nat} {g : Nat → Option Nat} {i : Int32} (hd : decode Y.2.1 pc = .ok (.aaload, 1)) (hs : sh[a]? = some (.inr (6, n, g))) (hin : vp_in i n) (hg : g i.toNatClampNeg = some j) (kk : WX hw TB k9 sh Y (pc + 1) lv (.ref j :: st) M Q QX) : WX hw TB k9 sh Y pc lv (.int i :: .ref a :: st) M Q QX := by
  intro l D cA ad p e s m args below meth c H locs A ls E C X
  refine va_aldq C.1 C.2.1 C.2.2.2.2.2.2.2.1 X.1 a 6 (xW_at hs) rfl hin hd ?_
  dsimp only
  rw [hg]
  exact kk l D cA ad p e s m args below meth c H locs A ls E C X
theorem xy_lald {a n : Nat} {g : Nat → Option Nat} {i : Int32} (hd : decode Y.2.1 pc = .ok (.laload, 1)) (hs : sh[a]? = some (.inr (3, n, g))) (hin : vp_in i n) (kk : WX hw TB k9 sh Y (pc + 1) lv (.long (M.2.2 a i.toNatClampNeg) :: st) M Q QX) : WX hw TB k9 sh Y pc lv (.int i :: .ref a :: st) M Q QX := by
  intro l D cA ad p e s m args below meth c H locs A ls E C X
  exact va_lald C.1 C.2.1 C.2.2.2.2.2.2.2.1 X.1 a 3 (xW_at hs) rfl hin hd (kk l D cA ad p e s m args below meth c H locs A ls E C X)
theorem xy_iret {v : Int32} (hd : decode Y.2.1 pc = .ok (.ireturn, 1)) (hr : Y.2.2.2.1 = some .int) (h9 : k9 ≤ 1) (hq : Q (some (.int v)) M) : WX hw TB k9 sh Y pc lv [.int v] M Q QX := by
  intro l D cA ad p e s m args below meth c H locs A ls E C X
  refine W.widen (k := 1) (n := 6) h9 (by omega) ?_
  refine vx_ret ?_
  exact W.iret (v := v) C.1 C.2.1 (C.2.2.2.1.trans hr) (fun t ht hW => xq_ret (r := some (.int v)) C.2.2.2.2.2.2.2.1 X.1 X.2.1 X.2.2.1 hq ht hW) X.2.2.1.2.2 hd C.2.2.2.2.1
theorem xy_lret {v : Int64} (hd : decode Y.2.1 pc = .ok (.lreturn, 1)) (hr : Y.2.2.2.1 = some .long) (h9 : k9 ≤ 1) (hq : Q (some (.long v)) M) : WX hw TB k9 sh Y pc lv [.long v] M Q QX := by
  intro l D cA ad p e s m args below meth c H locs A ls E C X
  refine W.widen (k := 1) (n := 6) h9 (by omega) ?_
  refine vx_ret ?_
  exact W.lret (v := v) C.1 C.2.1 (C.2.2.2.1.trans hr) (fun t ht hW => xq_ret (r := some (.long v)) C.2.2.2.2.2.2.2.1 X.1 X.2.1 X.2.2.1 hq ht hW) X.2.2.1.2.2 hd C.2.2.2.2.1
theorem xy_vret (hd : decode Y.2.1 pc = .ok (.return_, 1)) (hr : Y.2.2.2.1 = none) (h9 : k9 ≤ 1) (hq : Q none M) : WX hw TB k9 sh Y pc lv [] M Q QX := by
  intro l D cA ad p e s m args below meth c H locs A ls E C X
  refine W.widen (k := 1) (n := 6) h9 (by omega) ?_
  refine vx_ret ?_
  exact W.vret C.1 C.2.1 (C.2.2.2.1.trans hr) (fun t ht hW => xq_ret (r := none) C.2.2.2.2.2.2.2.1 X.1 X.2.1 X.2.2.1 hq ht hW) X.2.2.1.2.2 hd C.2.2.2.2.1
theorem xy_at {pc' : Nat} (h : pc = pc') (k : WX hw TB k9 sh Y pc' lv st M Q QX) : WX hw TB k9 sh Y pc lv st M Q QX := by rw [h]; exact k
/-- a callee that makes nothing -/
theorem xgoX {p : Program} {l : Launch} {e : Env} {R : Room} {s : State} {m : MethodId} {args : Array Value} {below : List Frame} {meth : Method} {c : Code} {H : Heap} {locs : List Loc} {Qf : State → Prop} {pc cells slots : Nat} {ls : Array Slot} {rest st0 : List Value} {a : Array Value} {A A1 : Nat → Prop} {D : va_G} {cA : Nat → ClassId} {ad : Nat → Nat} {sh : List xSh} {Q1 : Option Value → xM → Prop}
    (hr : va_Run p l e R s m args below meth c H locs cells slots 0 0 (F0 m pc ls st0) rest (xQ D cA ad sh Q1 A1 a) A1) (hS : va_S A s.heap H locs) (hA : ∀ q, A1 q → A q)
    (kk : ∀ (r : Option Value) (M : xM) (H1 : Heap) (locs1 : List Loc), Q1 r M → va_P D vwCl (xW cA ad sh M) H1 → va_D A (xW cA ad sh M) → va_S A s.heap H1 locs1 → W p l e R s m args below meth c H1 locs1 cells slots Qf (F0 m (pc + 3) ls ((r.map (xv ad)).toList ++ rest))) : W p l e R s m args below meth c H locs cells slots Qf (F0 m pc ls st0) := by
  intro T hT X
  obtain ⟨v, st₀, t, T', L, h0, X', hL, e1, e2, ⟨⟨r, M, hv, hp, hP, hK, hD⟩, hz, hk⟩, st⟩ := hr T hT X
  cases hv
  rw [h0] at hz hk
  obtain ⟨t2, a1, b1⟩ := kk r M T'.heap (locs ++ L) hp (by rw [e1]; exact hP) (hD.weaken (fun _ q _ h => hA q.1 h))
    ⟨Nat.le_trans hS.1 (by rw [e1]; exact hz), fun q h1 h2 => by rw [e1, hk q (Nat.lt_of_lt_of_le h1 hS.1) (fun z => h2 (hA q z))]; exact hS.2.1 q h1 h2, fun q hq => by
      rcases List.mem_append.mp hq with h | h
      · exact hS.2.2 q h
      · exact hA _ (hL q h)⟩ T' rfl X'
  exact ⟨t2, st t2 a1, b1⟩
theorem xgoodX {hw : Cond} {Z : xY} (h : Cond.code Z.1 Z.2.1 Z.2.2.1 Z.2.2.2.1 ∈ xtb) : GoodIn (hw :: xtb) (xws Z) := by
  have key : ∀ w ∈ xtb, w ∈ hw :: xtb ∧ ((w.onTables && w.keeps) = true ∨ ∃ ty, w = .arrayClass ty) := fun w hw => ⟨List.mem_cons_of_mem _ hw, good_of_word (List.mem_filter.mp hw).2⟩
  intro w hw
  rcases List.mem_cons.mp hw with rfl | hw
  · exact key _ h
  · exact key _ hw
theorem xy_callV {Z : xY} {n idx ci o : Nat} {ks : List (Option Nat)} {w : vw_C} {st0 : List Value} {lv0 : List (Option Value)} (As st : List Value)
    (hd : decode Y.2.1 pc = .ok (.invokevirtual idx, 3)) (hZ : xZv Z n) (hl : Cond.methodLink Y.1.cls idx Z.1 ∈ xtb) (hs : sh[o]? = some (.inl (ci, ks))) (hc : vwCl[ci]? = some w) (hw1 : w.1 = Z.1.cls) (hn : As.length = n) (hst : st0 = As.reverse ++ .ref o :: st) (hen : xen (.ref o :: As) Z.2.2.1 = lv0) (hsz : (xex (.ref o :: As)).length ≤ Z.2.2.1) (hcat : (st.map fun v => v.category).sum ≤ 8)
    (hR : Z.2.2.2.2.1 + 1 ≤ Y.2.2.2.2.1 ∧ 8 + (Z.2.2.1 + 11) + Z.2.2.2.2.2 ≤ Y.2.2.2.2.2) (h9 : k9 ≤ 1)
    (k : WP sh Z 0 lv0 [] M (fun r M' => WX hw TB k9 sh Y (pc + 3) lv (r.toList ++ st) M' Q QX)) : WX hw TB k9 sh Y pc lv st0 M Q QX := by
  intro l D cA ad p e s m args below meth c H locs A ls E C X
  obtain ⟨hx, hb, hml, hr, hlk, hown, hts, hK, hZ0, hA⟩ := id C
  obtain ⟨hP, hD, hS, hL⟩ := id X
  have hF := xfree hD hS hA
  have hM := xMet hZ.1 hen hsz k l D cA ad H.size
  have hcatm : ((st.map (xv ad)).map fun v => v.category) = st.map fun v => v.category := by
    rw [List.map_map]; exact List.map_congr_left (fun v _ => xv_cat ad v)
  have ht : ∀ w ∈ xtb, w.before args s = true := fun w h => hts w (List.mem_cons_of_mem _ h)
  have hrv := va_recv hK hP hc (xW_at (cA := cA) (ad := ad) (M := M) hs)
  rw [hw1] at hrv
  refine xgoX (va_runV (C := Z.1.cls) (b := ad o) (n := n) (index := idx) (As := As.map (xv ad)) (rest := st.map (xv ad)) ⟨hx, hb, hml, hown, hts⟩ hM ⟨callB_of (bytes := Z.2.1) (maxL := Z.2.2.1) (ret := Z.2.2.2.1) n hts (xgoodX hZ.2.2.1) rfl rfl rfl (ht _ hZ.2.2.2.1) (ht _ hl) hZ.2.1 hR, ht _ hZ.2.2.2.2.1, ht _ hZ.2.2.2.2.2⟩
    ⟨xblind, hrv, fun U hU hW => ⟨rfl, by rw [hU], by rw [hU]; exact hP, va_K.moved hW.alike hK, hD.weaken (fun _ _ _ _ => trivial), xZ_to (locs := locs) hZ0 hW (by rw [hU]; exact hS) hF⟩⟩ rfl (by rw [List.length_map]; exact hn) hL.1 (by rw [hst]; simp [xv]) (lv_room (by rw [hcatm]; exact hcat)) hd ⟨h9, by show 6 * k9 + 0 ≤ 6; omega⟩) hS hF (fun r M' H1 locs1 hq hP1 hD1 hS1 => ?_)
  have h9 := hq l D cA ad p e s m args below meth c H1 locs1 A ls E C ⟨hP1, hD1, hS1, hL⟩
  rw [show (r.map (xv ad)).toList ++ st.map (xv ad) = (r.toList ++ st).map (xv ad) by cases r <;> simp]
  exact h9
theorem xy_callS {Z : xY} {n idx : Nat} {st0 : List Value} {lv0 : List (Option Value)} (As st : List Value)
    (hd : decode Y.2.1 pc = .ok (.invokestatic idx, 3)) (hZ : xZs Z n) (hl : Cond.methodLink Y.1.cls idx Z.1 ∈ xtb) (hn : As.length = n) (hst : st0 = As.reverse ++ st) (hen : xen As Z.2.2.1 = lv0) (hsz : (xex As).length ≤ Z.2.2.1) (hcat : (st.map fun v => v.category).sum ≤ 8)
    (hR : Z.2.2.2.2.1 + 1 ≤ Y.2.2.2.2.1 ∧ 8 + (Z.2.2.1 + 11) + Z.2.2.2.2.2 ≤ Y.2.2.2.2.2) (h9 : k9 ≤ 1)
    (k : WP sh Z 0 lv0 [] M (fun r M' => WX hw TB k9 sh Y (pc + 3) lv (r.toList ++ st) M' Q QX)) : WX hw TB k9 sh Y pc lv st0 M Q QX := by
  intro l D cA ad p e s m args below meth c H locs A ls E C X
  obtain ⟨hx, hb, hml, hr, hlk, hown, hts, hK, hZ0, hA⟩ := id C
  obtain ⟨hP, hD, hS, hL⟩ := id X
  have hF := xfree hD hS hA
  have hM := xMet hZ.1 hen hsz k l D cA ad H.size
  have hcatm : ((st.map (xv ad)).map fun v => v.category) = st.map fun v => v.category := by
    rw [List.map_map]; exact List.map_congr_left (fun v _ => xv_cat ad v)
  have ht : ∀ w ∈ xtb, w.before args s = true := fun w h => hts w (List.mem_cons_of_mem _ h)
  refine xgoX (va_runS (n := n) (index := idx) (As := As.map (xv ad)) (rest := st.map (xv ad)) ⟨hx, hb, hml, hown, hts⟩ hM ⟨callB_of (bytes := Z.2.1) (maxL := Z.2.2.1) (ret := Z.2.2.2.1) n hts (xgoodX hZ.2.2.1) rfl rfl rfl (ht _ hZ.2.2.2.1) (ht _ hl) hZ.2.1 hR, ht _ hZ.2.2.2.2⟩
    ⟨xblind, fun U hU hW => ⟨rfl, by rw [hU], by rw [hU]; exact hP, va_K.moved hW.alike hK, hD.weaken (fun _ _ _ _ => trivial), xZ_to (locs := locs) hZ0 hW (by rw [hU]; exact hS) hF⟩⟩ rfl (by rw [List.length_map]; exact hn) hL.1 (by rw [hst]; simp) (lv_room (by rw [hcatm]; exact hcat)) hd ⟨h9, by show 6 * k9 + 0 ≤ 6; omega⟩) hS hF (fun r M' H1 locs1 hq hP1 hD1 hS1 => ?_)
  have h9 := hq l D cA ad p e s m args below meth c H1 locs1 A ls E C ⟨hP1, hD1, hS1, hL⟩
  rw [show (r.map (xv ad)).toList ++ st.map (xv ad) = (r.toList ++ st).map (xv ad) by cases r <;> simp]
  exact h9
/-- 'throw new E("..")' -/
theorem xy_throwS {ik is ic : Nat} {own cls text : String} (hY : Y.1.cls = own) (hcls : Bundle.fit cls = true) (hTB : TB = [])
    (hk : Cond.classLink own ik cls ∈ xtb) (hini : Cond.initialized cls ∈ xtb) (hstr : ∀ A U, xZx A U → ∃ a, vk_R own is text a U) (hat : (xXa own ic cls).all (fun w => xok w && vx_ot w) = true)
    (d0 : decode Y.2.1 pc = .ok (.new ik, 3)) (d3 : decode Y.2.1 (pc + 3) = .ok (.dup, 1)) (d4 : decode Y.2.1 (pc + 4) = .ok (.ldc is, 2)) (d6 : decode Y.2.1 (pc + 6) = .ok (.invokespecial ic, 3)) (d9 : decode Y.2.1 (pc + 9) = .ok (.athrow, 1))
    (hR : 6 ≤ Y.2.2.2.2.1 ∧ 90 ≤ Y.2.2.2.2.2) (hq : QX cls M) : WX hw TB 0 sh Y pc lv [] M Q QX := by
  intro l D cA ad p e s m args below meth c H locs A ls E C X
  obtain ⟨hx, hb, hml, hr, hlk, hown, hts, hK, hZ0, hA⟩ := id C
  obtain ⟨hP, hD, hS, hL⟩ := id X
  have ht : ∀ w ∈ xtb, w.before args s = true := fun w h => hts w (List.mem_cons_of_mem _ h)
  obtain ⟨sa, hsa⟩ := hstr _ _ E.2.1
  rw [hY] at hown
  refine vx_throwS (A := A) (own := own) (cls := cls) (text := text) (names := ["java/lang/RuntimeException", "java/lang/Exception"]) (sa := sa) hx hb E.1 hown hcls (by decide +kernel) (ht _ hk) (ht _ hini) hsa (xok_use hat ht E.2.1.1) ?_ E.2.1.2.1 E.2.1.2.2.1 hS (hL.1.trans hml.symm) d0 d3 d4 d6 d9 (by rw [E.2.2, hTB]; intro x h; cases h) (by show 2 + 3 < Y.2.2.2.2.1; omega) (by show (0 : Nat) + (13 * (2 + 1) + 43) ≤ Y.2.2.2.2.2; omega) (Nat.le_refl 1) (Nat.le_refl 6) hlk (fun t hal hz hkp => ⟨M, hq, ⟨hP.kept (fun k q h => hkp _ (hP k q h).lt), va_K.moved hal hK, hD⟩, Nat.le_trans hS.1 hz, fun q h1 h2 => (hkp q (Nat.lt_of_lt_of_le h1 hS.1)).trans (hS.2.1 q h1 h2)⟩) hS.2.2 (Nat.le_refl 1) (Nat.le_refl 6)
  intro w hw9
  rcases List.mem_cons.mp hw9 with rfl | hw9
  · exact (by unfold vx_ot; rw [(List.mem_filter.mp hk).2, Bool.or_true])
  · rcases List.mem_cons.mp hw9 with rfl | hw9
    · exact (by unfold vx_ot; rw [(List.mem_filter.mp hini).2, Bool.or_true])
    · have h3 := List.all_eq_true.mp hat w hw9
      simp only [Bool.and_eq_true] at h3
      exact h3.2
/-- 'throw new E("..")' -/
theorem xy_throwSW {ik is ic : Nat} {own cls text : String} (hY : Y.1.cls = own) (hcls : Bundle.fit cls = true) (hTB : TB = [])
    (hk : Cond.classLink own ik cls ∈ xtb) (hini : Cond.initialized cls ∈ xtb) (hstr : ∀ A U, xZx A U → ∃ a, vk_R own is text a U) (hat : (xXa own ic cls).all (fun w => xok w && vx_ot w) = true)
    (d0 : decode Y.2.1 pc = .ok (.new ik, 3)) (d3 : decode Y.2.1 (pc + 3) = .ok (.dup, 1)) (d4 : decode Y.2.1 (pc + 4) = .ok (.ldc_w is, 3)) (d6 : decode Y.2.1 (pc + 7) = .ok (.invokespecial ic, 3)) (d9 : decode Y.2.1 (pc + 10) = .ok (.athrow, 1))
    (hR : 6 ≤ Y.2.2.2.2.1 ∧ 90 ≤ Y.2.2.2.2.2) (hq : QX cls M) : WX hw TB 0 sh Y pc lv [] M Q QX := by
  intro l D cA ad p e s m args below meth c H locs A ls E C X
  obtain ⟨hx, hb, hml, hr, hlk, hown, hts, hK, hZ0, hA⟩ := id C
  obtain ⟨hP, hD, hS, hL⟩ := id X
  have ht : ∀ w ∈ xtb, w.before args s = true := fun w h => hts w (List.mem_cons_of_mem _ h)
  obtain ⟨sa, hsa⟩ := hstr _ _ E.2.1
  rw [hY] at hown
  refine vx_throwSW (A := A) (own := own) (cls := cls) (text := text) (names := ["java/lang/RuntimeException", "java/lang/Exception"]) (sa := sa) hx hb E.1 hown hcls (by decide +kernel) (ht _ hk) (ht _ hini) hsa (xok_use hat ht E.2.1.1) ?_ E.2.1.2.1 E.2.1.2.2.1 hS (hL.1.trans hml.symm) d0 d3 d4 d6 d9 (by rw [E.2.2, hTB]; intro x h; cases h) (by show 2 + 3 < Y.2.2.2.2.1; omega) (by show (0 : Nat) + (13 * (2 + 1) + 43) ≤ Y.2.2.2.2.2; omega) (Nat.le_refl 1) (Nat.le_refl 6) hlk (fun t hal hz hkp => ⟨M, hq, ⟨hP.kept (fun k q h => hkp _ (hP k q h).lt), va_K.moved hal hK, hD⟩, Nat.le_trans hS.1 hz, fun q h1 h2 => (hkp q (Nat.lt_of_lt_of_le h1 hS.1)).trans (hS.2.1 q h1 h2)⟩) hS.2.2 (Nat.le_refl 1) (Nat.le_refl 6)
  intro w hw9
  rcases List.mem_cons.mp hw9 with rfl | hw9
  · exact (by unfold vx_ot; rw [(List.mem_filter.mp hk).2, Bool.or_true])
  · rcases List.mem_cons.mp hw9 with rfl | hw9
    · exact (by unfold vx_ot; rw [(List.mem_filter.mp hini).2, Bool.or_true])
    · have h3 := List.all_eq_true.mp hat w hw9
      simp only [Bool.and_eq_true] at h3
      exact h3.2
end XX
