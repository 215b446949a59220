/-! constructors: a world of its own, numbered as xW numbers it, all memory zero -/
def zM : xM := (fun _ _ => 0, fun _ _ => 0, fun _ _ => 0)
theorem kOi : Cond.instanceMethod Lib.objectInit ∈ xtb := xint 26 (by decide +kernel) rfl
theorem kOc : Cond.code Lib.objectInit ⟨#[0xb1]⟩ 1 none ∈ xtb := xint 27 (by decide +kernel) rfl
theorem ka0 : Cond.arrayClass .int ∈ xtb := xint 95 (by decide +kernel) rfl
theorem ka1 : Cond.arrayClass .byte ∈ xtb := xint 172 (by decide +kernel) rfl
theorem ka2 : Cond.arrayClass .boolean ∈ xtb := xint 1129 (by decide +kernel) rfl
theorem ka3 : Cond.arrayClass .long ∈ xtb := xint 282 (by decide +kernel) rfl
/-- a new row of numbers, its class the known one -/
theorem nw_newa {p : Program} {l : Launch} {e : Env} {R : Room} {s : State} {m : MethodId} {args : Array Value} {below : List Frame} {meth : Method} {c : Code} {H H0 : Heap} {locs : List Loc} {cells slots : Nat} {Q : State → Prop} {cc : ByteArray} {pc : Nat} {ls : Array Slot} {rest : List Value} {D : va_G} {cA : Nat → ClassId} {ws : va_W} {A : Nat → Prop} (t : Nat)
    (hexec : p.tables.exec = Jvm.exec) (hb : c.code = cc) {atype : ArrayType} (harr : (Cond.arrayClass (newarray.typeOf atype)).before args s = true) {ty : FieldType} (hty : newarray.typeOf atype = ty) (hK : va_K D vwCl (xtys cA) s) (ht : (xtys cA)[t]? = some (cA t, ty)) (hpr : ∀ c9, va_RA s c9 ty → s.vm.findClass ("[" ++ ty.toString) = some c9) (hP : va_P D vwCl ws H) (hD : va_D A ws) (hS : va_S A H0 H locs) (hA : ∀ q, H0.size ≤ q → A q)
    {n : Int32} {N' : Nat} {a0 : vp_A} (ha : ∀ cA : ClassId, vp_cell cA a0 = arrV cA N' (fun _ => defaultValue ty)) (hn : ¬ n < 0) (hN : n.toNatClampNeg = N') (hbytes : N' * componentBytes ty ≤ 536870912) (hcells : cells + 1 ≤ R.cells) (hslots : slots + N' ≤ R.slots) (hdg : decode cc pc = .ok (.newarray atype, 2))
    (kk : ∀ (q : Nat) (H1 : Heap), va_P D vwCl (ws ++ [(q, .inl (cA t, a0))]) H1 → va_D A (ws ++ [(q, .inl (cA t, a0))]) → va_S A H0 H1 locs → W p l e R s m args below meth c H1 locs (cells + 1) (slots + N') Q (F0 m (pc + 2) ls (.ref q :: rest))) : W p l e R s m args below meth c H locs cells slots Q (F0 m pc ls (.int n :: rest)) := by
  refine va_newa hexec hb harr hty hK hP hD hS hA ha hn hN hbytes hcells hslots hdg (fun q c9 H1 hK9 hP9 hD9 hS9 => ?_)
  have h1 := hpr _ (hK9.2 (xtys cA).length (c9, ty) (by rw [List.getElem?_append_right (Nat.le_refl _)]; simp)).2
  have h2 := hpr _ (hK.2 t _ ht).2
  have e9 : c9 = cA t := Option.some.inj (h1.symm.trans h2)
  subst e9
  exact kk q H1 hP9 hD9 hS9
def nQ (D : va_G) (cA : Nat → ClassId) (sh : List xSh) (ex : (Nat → Nat) → Prop) (A : Nat → Prop) : Array Value → State → Outcome → State → Prop := fun _ st oc t =>
  (∃ ad : Nat → Nat, oc = .returned none ∧ ex ad ∧ va_P D vwCl (xW cA ad sh zM) t.heap ∧ va_D A (xW cA ad sh zM)) ∧ va_F A st t
def nP (D : va_G) (cA : Nat → ClassId) (x : Nat × va_E) (sz : Nat) (U : State) : Prop := U.heap.size = sz ∧ va_P D vwCl [x] U.heap ∧ va_K D vwCl (xtys cA) U ∧ va_D (fun _ => True) [x]
def shX4 : List xSh := [.inl (3, [some 1, none, none, none]), .inr (0, 65, xno)]
abbrev mX4_init : xY := (yX4_init, cX4_init, 1, none, 1, 20)
set_option maxHeartbeats 4000000 in
set_option maxRecDepth 100000 in
theorem n_X4 (l : Launch) (D : va_G) (cA : Nat → ClassId) (h0 sz : Nat) : Met l yX4_init (xws mX4_init) { frames := 1, cells := 1, slots := 65, locals := 20 } (va_Pc [.ref h0] (nP D cA (h0, .inr (3, [.null, .int 0, .int 0, .int 0])) sz)) (nQ D cA shX4 (fun ad => ad 0 = h0) (va_A [(h0, .inr (3, [.null, .int 0, .int 0, .int 0]))] sz)) 1 65 (va_A [(h0, .inr (3, [.null, .int 0, .int 0, .int 0]))] sz) := by
  refine xOfW (cc := cX4_init) (maxL := 1) (ret := none) (plainFor_of_name (by decide +kernel)) rfl ?_
  intro p e s m args below meth c s₁ B hml hv
  obtain ⟨rfl, hsz, hP, hK, hD0⟩ := hv
  have hx := B.exec
  have hb := B.bytes
  have hr := B.returns
  have hts := atoms_spec (ws := xws mX4_init) B.pre
  have hown : s.vm.findClass RX4 = some m.cls := findClass_of_methodNamed B.named
  have hlocks := B.notSynchronized
  have hin : meth.name = "<init>" := (name_of_methodNamed B.named B.method).1
  have ht : ∀ w ∈ xtb, w.before ([.ref h0] : List Value).toArray s = true := fun w h => hts w (List.mem_cons_of_mem _ h)
  subst hsz
  have hD := hD0.self (sz := s.heap.size)
  generalize hAe : va_A [(h0, .inr (3, [.null, .int 0, .int 0, .int 0]))] s.heap.size = A at hD ⊢
  have hA : ∀ q : Nat, s.heap.size ≤ q → A q := fun q h => by rw [← hAe]; exact Or.inr h
  have hS : va_S A s.heap s.heap [] := va_S.rf
  have hl := lv_entry ([.ref h0]) (n := 1) (Nat.le_of_ble_eq_true rfl)
  rw [lg_entry_eq]
  generalize (lg_sl ([.ref h0]) ++ List.replicate (1 - (lg_sl ([.ref h0])).length) Slot.unset).toArray = ls at hl ⊢
  have hl : lv_has ls 1 [(0, .ref h0)] := hl
  refine lv_aload_n hx hb dX4_init_0 rfl (lv_at hl 0 rfl) ?_
  refine W.objInit hx hb hown (ht _ (xint 215 (by decide +kernel) rfl : Cond.methodLink RX4 3 Lib.objectInit ∈ xtb)) (ht _ kOi) (ht _ kOc) rfl (by rw [hml]; exact hl.1) rfl dX4_init_1 (Nat.le_of_ble_eq_true rfl) (Nat.le_of_ble_eq_true rfl) ?_
  refine W.eq (g2 := F0 m 4 ls []) rfl ?_
  refine lv_aload_n hx hb dX4_init_4 rfl (lv_at hl 0 rfl) ?_
  refine lv_bipush (v := nI 65) hx hb dX4_init_5 rfl ?_
  refine nw_newa 0 (atype := .int) (ty := .int) (a0 := (65, .inl (fun _ => 0))) hx hb (ht _ ka0) rfl hK rfl (fun _ h => h) hP hD hS hA (fun _ => rfl) (nI_pos (by decide)) (nI_clamp (by decide)) (by decide) (Nat.le_of_ble_eq_true rfl) (Nat.le_of_ble_eq_true rfl) dX4_init_7 (fun q1 H hP hD hS => ?_)
  refine va_putF (ci := 3) (v := .ref q1) (ty := (.array .int)) (C := RX4) (T := TX4) (N := 4) hx hb hts (fun w h => List.mem_cons_of_mem _ (iwX4 w h)) tyX4 tyX4_ok nmX4 hown hK hP hD hS 0 rfl rfl 0 (by decide) (ht _ (xint 216 (by decide +kernel) rfl : Cond.fieldLink RX4 9 "RunJudge$Odds" "row" "[I" ∈ xtb)) (fun _ h9 => h9) rfl hin rfl (by decide +kernel) rfl rfl (Nat.le_of_ble_eq_true rfl) dX4_init_9 (fun H locs hP hD hS => ?_)
  have hP : va_P D vwCl [(h0, .inr (3, [.ref q1, .int 0, .int 0, .int 0])), (q1, .inl (cA 0, 65, .inl (fun _ => 0)))] H := hP
  have hD : va_D A [(h0, .inr (3, [.ref q1, .int 0, .int 0, .int 0])), (q1, .inl (cA 0, 65, .inl (fun _ => 0)))] := hD
  obtain ⟨ad, had⟩ : ∃ ad : Nat → Nat, ad = fun i => match i with
    | 0 => h0
    | 1 => q1
    | _ => 0 := ⟨_, rfl⟩
  have hw : [(h0, .inr (3, [.ref q1, .int 0, .int 0, .int 0])), (q1, .inl (cA 0, 65, .inl (fun _ => 0)))] = xW cA ad shX4 zM := by rw [had]; rfl
  rw [hw] at hP hD
  exact W.vret hx hb hr (fun t ht hW => ⟨⟨ad, rfl, (show ad 0 = h0 by rw [had]; rfl), by rw [ht]; exact hP, hD⟩, hS.F ht⟩) hS.2.2 dX4_init_12 hlocks
def shX1 : List xSh := [.inl (0, [none, none, none, none, none, none, some 1, some 2, some 3, some 4, some 5, some 6, some 7]), .inr (0, 100, xno), .inr (0, 100, xno), .inr (0, 100, xno), .inr (0, 100, xno), .inr (0, 400, xno), .inr (0, 8, xno), .inr (0, 16, xno)]
abbrev mX1_init : xY := (yX1_init, cX1_init, 1, none, 1, 20)
set_option maxHeartbeats 4000000 in
set_option maxRecDepth 100000 in
theorem n_X1 (l : Launch) (D : va_G) (cA : Nat → ClassId) (h0 sz : Nat) : Met l yX1_init (xws mX1_init) { frames := 1, cells := 7, slots := 824, locals := 20 } (va_Pc [.ref h0] (nP D cA (h0, .inr (0, [.int 0, .int 0, .int 0, .int 0, .int 0, .int 0, .null, .null, .null, .null, .null, .null, .null])) sz)) (nQ D cA shX1 (fun ad => ad 0 = h0) (va_A [(h0, .inr (0, [.int 0, .int 0, .int 0, .int 0, .int 0, .int 0, .null, .null, .null, .null, .null, .null, .null]))] sz)) 7 824 (va_A [(h0, .inr (0, [.int 0, .int 0, .int 0, .int 0, .int 0, .int 0, .null, .null, .null, .null, .null, .null, .null]))] sz) := by
  refine xOfW (cc := cX1_init) (maxL := 1) (ret := none) (plainFor_of_name (by decide +kernel)) rfl ?_
  intro p e s m args below meth c s₁ B hml hv
  obtain ⟨rfl, hsz, hP, hK, hD0⟩ := hv
  have hx := B.exec
  have hb := B.bytes
  have hr := B.returns
  have hts := atoms_spec (ws := xws mX1_init) B.pre
  have hown : s.vm.findClass RX1 = some m.cls := findClass_of_methodNamed B.named
  have hlocks := B.notSynchronized
  have hin : meth.name = "<init>" := (name_of_methodNamed B.named B.method).1
  have ht : ∀ w ∈ xtb, w.before ([.ref h0] : List Value).toArray s = true := fun w h => hts w (List.mem_cons_of_mem _ h)
  subst hsz
  have hD := hD0.self (sz := s.heap.size)
  generalize hAe : va_A [(h0, .inr (0, [.int 0, .int 0, .int 0, .int 0, .int 0, .int 0, .null, .null, .null, .null, .null, .null, .null]))] s.heap.size = A at hD ⊢
  have hA : ∀ q : Nat, s.heap.size ≤ q → A q := fun q h => by rw [← hAe]; exact Or.inr h
  have hS : va_S A s.heap s.heap [] := va_S.rf
  have hl := lv_entry ([.ref h0]) (n := 1) (Nat.le_of_ble_eq_true rfl)
  rw [lg_entry_eq]
  generalize (lg_sl ([.ref h0]) ++ List.replicate (1 - (lg_sl ([.ref h0])).length) Slot.unset).toArray = ls at hl ⊢
  have hl : lv_has ls 1 [(0, .ref h0)] := hl
  refine lv_aload_n hx hb dX1_init_0 rfl (lv_at hl 0 rfl) ?_
  refine W.objInit hx hb hown (ht _ (xint 33 (by decide +kernel) rfl : Cond.methodLink RX1 3 Lib.objectInit ∈ xtb)) (ht _ kOi) (ht _ kOc) rfl (by rw [hml]; exact hl.1) rfl dX1_init_1 (Nat.le_of_ble_eq_true rfl) (Nat.le_of_ble_eq_true rfl) ?_
  refine W.eq (g2 := F0 m 4 ls []) rfl ?_
  refine lv_aload_n hx hb dX1_init_4 rfl (lv_at hl 0 rfl) ?_
  refine lv_bipush (v := nI 100) hx hb dX1_init_5 rfl ?_
  refine nw_newa 0 (atype := .int) (ty := .int) (a0 := (100, .inl (fun _ => 0))) hx hb (ht _ ka0) rfl hK rfl (fun _ h => h) hP hD hS hA (fun _ => rfl) (nI_pos (by decide)) (nI_clamp (by decide)) (by decide) (Nat.le_of_ble_eq_true rfl) (Nat.le_of_ble_eq_true rfl) dX1_init_7 (fun q1 H hP hD hS => ?_)
  refine va_putF (ci := 0) (v := .ref q1) (ty := (.array .int)) (C := RX1) (T := TX1) (N := 13) hx hb hts (fun w h => List.mem_cons_of_mem _ (iwX1 w h)) tyX1 tyX1_ok nmX1 hown hK hP hD hS 0 rfl rfl 6 (by decide) (ht _ (xint 52 (by decide +kernel) rfl : Cond.fieldLink RX1 9 "RunJudge$Ground" "map" "[I" ∈ xtb)) (fun _ h9 => h9) rfl hin rfl (by decide +kernel) rfl rfl (Nat.le_of_ble_eq_true rfl) dX1_init_9 (fun H locs hP hD hS => ?_)
  have hP : va_P D vwCl [(h0, .inr (0, [.int 0, .int 0, .int 0, .int 0, .int 0, .int 0, .ref q1, .null, .null, .null, .null, .null, .null])), (q1, .inl (cA 0, 100, .inl (fun _ => 0)))] H := hP
  have hD : va_D A [(h0, .inr (0, [.int 0, .int 0, .int 0, .int 0, .int 0, .int 0, .ref q1, .null, .null, .null, .null, .null, .null])), (q1, .inl (cA 0, 100, .inl (fun _ => 0)))] := hD
  refine lv_aload_n hx hb dX1_init_12 rfl (lv_at hl 0 rfl) ?_
  refine lv_bipush (v := nI 100) hx hb dX1_init_13 rfl ?_
  refine nw_newa 0 (atype := .int) (ty := .int) (a0 := (100, .inl (fun _ => 0))) hx hb (ht _ ka0) rfl hK rfl (fun _ h => h) hP hD hS hA (fun _ => rfl) (nI_pos (by decide)) (nI_clamp (by decide)) (by decide) (Nat.le_of_ble_eq_true rfl) (Nat.le_of_ble_eq_true rfl) dX1_init_15 (fun q2 H hP hD hS => ?_)
  refine va_putF (ci := 0) (v := .ref q2) (ty := (.array .int)) (C := RX1) (T := TX1) (N := 13) hx hb hts (fun w h => List.mem_cons_of_mem _ (iwX1 w h)) tyX1 tyX1_ok nmX1 hown hK hP hD hS 0 rfl rfl 7 (by decide) (ht _ (xint 55 (by decide +kernel) rfl : Cond.fieldLink RX1 15 "RunJudge$Ground" "link" "[I" ∈ xtb)) (fun _ h9 => h9) rfl hin rfl (by decide +kernel) rfl rfl (Nat.le_of_ble_eq_true rfl) dX1_init_17 (fun H locs hP hD hS => ?_)
  have hP : va_P D vwCl [(h0, .inr (0, [.int 0, .int 0, .int 0, .int 0, .int 0, .int 0, .ref q1, .ref q2, .null, .null, .null, .null, .null])), (q1, .inl (cA 0, 100, .inl (fun _ => 0))), (q2, .inl (cA 0, 100, .inl (fun _ => 0)))] H := hP
  have hD : va_D A [(h0, .inr (0, [.int 0, .int 0, .int 0, .int 0, .int 0, .int 0, .ref q1, .ref q2, .null, .null, .null, .null, .null])), (q1, .inl (cA 0, 100, .inl (fun _ => 0))), (q2, .inl (cA 0, 100, .inl (fun _ => 0)))] := hD
  refine lv_aload_n hx hb dX1_init_20 rfl (lv_at hl 0 rfl) ?_
  refine lv_bipush (v := nI 100) hx hb dX1_init_21 rfl ?_
  refine nw_newa 0 (atype := .int) (ty := .int) (a0 := (100, .inl (fun _ => 0))) hx hb (ht _ ka0) rfl hK rfl (fun _ h => h) hP hD hS hA (fun _ => rfl) (nI_pos (by decide)) (nI_clamp (by decide)) (by decide) (Nat.le_of_ble_eq_true rfl) (Nat.le_of_ble_eq_true rfl) dX1_init_23 (fun q3 H hP hD hS => ?_)
  refine va_putF (ci := 0) (v := .ref q3) (ty := (.array .int)) (C := RX1) (T := TX1) (N := 13) hx hb hts (fun w h => List.mem_cons_of_mem _ (iwX1 w h)) tyX1 tyX1_ok nmX1 hown hK hP hD hS 0 rfl rfl 8 (by decide) (ht _ (xint 58 (by decide +kernel) rfl : Cond.fieldLink RX1 18 "RunJudge$Ground" "columnOf" "[I" ∈ xtb)) (fun _ h9 => h9) rfl hin rfl (by decide +kernel) rfl rfl (Nat.le_of_ble_eq_true rfl) dX1_init_25 (fun H locs hP hD hS => ?_)
  have hP : va_P D vwCl [(h0, .inr (0, [.int 0, .int 0, .int 0, .int 0, .int 0, .int 0, .ref q1, .ref q2, .ref q3, .null, .null, .null, .null])), (q1, .inl (cA 0, 100, .inl (fun _ => 0))), (q2, .inl (cA 0, 100, .inl (fun _ => 0))), (q3, .inl (cA 0, 100, .inl (fun _ => 0)))] H := hP
  have hD : va_D A [(h0, .inr (0, [.int 0, .int 0, .int 0, .int 0, .int 0, .int 0, .ref q1, .ref q2, .ref q3, .null, .null, .null, .null])), (q1, .inl (cA 0, 100, .inl (fun _ => 0))), (q2, .inl (cA 0, 100, .inl (fun _ => 0))), (q3, .inl (cA 0, 100, .inl (fun _ => 0)))] := hD
  refine lv_aload_n hx hb dX1_init_28 rfl (lv_at hl 0 rfl) ?_
  refine lv_bipush (v := nI 100) hx hb dX1_init_29 rfl ?_
  refine nw_newa 0 (atype := .int) (ty := .int) (a0 := (100, .inl (fun _ => 0))) hx hb (ht _ ka0) rfl hK rfl (fun _ h => h) hP hD hS hA (fun _ => rfl) (nI_pos (by decide)) (nI_clamp (by decide)) (by decide) (Nat.le_of_ble_eq_true rfl) (Nat.le_of_ble_eq_true rfl) dX1_init_31 (fun q4 H hP hD hS => ?_)
  refine va_putF (ci := 0) (v := .ref q4) (ty := (.array .int)) (C := RX1) (T := TX1) (N := 13) hx hb hts (fun w h => List.mem_cons_of_mem _ (iwX1 w h)) tyX1 tyX1_ok nmX1 hown hK hP hD hS 0 rfl rfl 9 (by decide) (ht _ (xint 60 (by decide +kernel) rfl : Cond.fieldLink RX1 21 "RunJudge$Ground" "rowOf" "[I" ∈ xtb)) (fun _ h9 => h9) rfl hin rfl (by decide +kernel) rfl rfl (Nat.le_of_ble_eq_true rfl) dX1_init_33 (fun H locs hP hD hS => ?_)
  have hP : va_P D vwCl [(h0, .inr (0, [.int 0, .int 0, .int 0, .int 0, .int 0, .int 0, .ref q1, .ref q2, .ref q3, .ref q4, .null, .null, .null])), (q1, .inl (cA 0, 100, .inl (fun _ => 0))), (q2, .inl (cA 0, 100, .inl (fun _ => 0))), (q3, .inl (cA 0, 100, .inl (fun _ => 0))), (q4, .inl (cA 0, 100, .inl (fun _ => 0)))] H := hP
  have hD : va_D A [(h0, .inr (0, [.int 0, .int 0, .int 0, .int 0, .int 0, .int 0, .ref q1, .ref q2, .ref q3, .ref q4, .null, .null, .null])), (q1, .inl (cA 0, 100, .inl (fun _ => 0))), (q2, .inl (cA 0, 100, .inl (fun _ => 0))), (q3, .inl (cA 0, 100, .inl (fun _ => 0))), (q4, .inl (cA 0, 100, .inl (fun _ => 0)))] := hD
  refine lv_aload_n hx hb dX1_init_36 rfl (lv_at hl 0 rfl) ?_
  refine lv_sipush (v := nI 400) hx hb dX1_init_37 rfl ?_
  refine nw_newa 0 (atype := .int) (ty := .int) (a0 := (400, .inl (fun _ => 0))) hx hb (ht _ ka0) rfl hK rfl (fun _ h => h) hP hD hS hA (fun _ => rfl) (nI_pos (by decide)) (nI_clamp (by decide)) (by decide) (Nat.le_of_ble_eq_true rfl) (Nat.le_of_ble_eq_true rfl) dX1_init_40 (fun q5 H hP hD hS => ?_)
  refine va_putF (ci := 0) (v := .ref q5) (ty := (.array .int)) (C := RX1) (T := TX1) (N := 13) hx hb hts (fun w h => List.mem_cons_of_mem _ (iwX1 w h)) tyX1 tyX1_ok nmX1 hown hK hP hD hS 0 rfl rfl 10 (by decide) (ht _ (xint 62 (by decide +kernel) rfl : Cond.fieldLink RX1 24 "RunJudge$Ground" "neighbours" "[I" ∈ xtb)) (fun _ h9 => h9) rfl hin rfl (by decide +kernel) rfl rfl (Nat.le_of_ble_eq_true rfl) dX1_init_42 (fun H locs hP hD hS => ?_)
  have hP : va_P D vwCl [(h0, .inr (0, [.int 0, .int 0, .int 0, .int 0, .int 0, .int 0, .ref q1, .ref q2, .ref q3, .ref q4, .ref q5, .null, .null])), (q1, .inl (cA 0, 100, .inl (fun _ => 0))), (q2, .inl (cA 0, 100, .inl (fun _ => 0))), (q3, .inl (cA 0, 100, .inl (fun _ => 0))), (q4, .inl (cA 0, 100, .inl (fun _ => 0))), (q5, .inl (cA 0, 400, .inl (fun _ => 0)))] H := hP
  have hD : va_D A [(h0, .inr (0, [.int 0, .int 0, .int 0, .int 0, .int 0, .int 0, .ref q1, .ref q2, .ref q3, .ref q4, .ref q5, .null, .null])), (q1, .inl (cA 0, 100, .inl (fun _ => 0))), (q2, .inl (cA 0, 100, .inl (fun _ => 0))), (q3, .inl (cA 0, 100, .inl (fun _ => 0))), (q4, .inl (cA 0, 100, .inl (fun _ => 0))), (q5, .inl (cA 0, 400, .inl (fun _ => 0)))] := hD
  refine lv_aload_n hx hb dX1_init_45 rfl (lv_at hl 0 rfl) ?_
  refine lv_bipush (v := nI 8) hx hb dX1_init_46 rfl ?_
  refine nw_newa 0 (atype := .int) (ty := .int) (a0 := (8, .inl (fun _ => 0))) hx hb (ht _ ka0) rfl hK rfl (fun _ h => h) hP hD hS hA (fun _ => rfl) (nI_pos (by decide)) (nI_clamp (by decide)) (by decide) (Nat.le_of_ble_eq_true rfl) (Nat.le_of_ble_eq_true rfl) dX1_init_48 (fun q6 H hP hD hS => ?_)
  refine va_putF (ci := 0) (v := .ref q6) (ty := (.array .int)) (C := RX1) (T := TX1) (N := 13) hx hb hts (fun w h => List.mem_cons_of_mem _ (iwX1 w h)) tyX1 tyX1_ok nmX1 hown hK hP hD hS 0 rfl rfl 11 (by decide) (ht _ (xint 63 (by decide +kernel) rfl : Cond.fieldLink RX1 27 "RunJudge$Ground" "words" "[I" ∈ xtb)) (fun _ h9 => h9) rfl hin rfl (by decide +kernel) rfl rfl (Nat.le_of_ble_eq_true rfl) dX1_init_50 (fun H locs hP hD hS => ?_)
  have hP : va_P D vwCl [(h0, .inr (0, [.int 0, .int 0, .int 0, .int 0, .int 0, .int 0, .ref q1, .ref q2, .ref q3, .ref q4, .ref q5, .ref q6, .null])), (q1, .inl (cA 0, 100, .inl (fun _ => 0))), (q2, .inl (cA 0, 100, .inl (fun _ => 0))), (q3, .inl (cA 0, 100, .inl (fun _ => 0))), (q4, .inl (cA 0, 100, .inl (fun _ => 0))), (q5, .inl (cA 0, 400, .inl (fun _ => 0))), (q6, .inl (cA 0, 8, .inl (fun _ => 0)))] H := hP
  have hD : va_D A [(h0, .inr (0, [.int 0, .int 0, .int 0, .int 0, .int 0, .int 0, .ref q1, .ref q2, .ref q3, .ref q4, .ref q5, .ref q6, .null])), (q1, .inl (cA 0, 100, .inl (fun _ => 0))), (q2, .inl (cA 0, 100, .inl (fun _ => 0))), (q3, .inl (cA 0, 100, .inl (fun _ => 0))), (q4, .inl (cA 0, 100, .inl (fun _ => 0))), (q5, .inl (cA 0, 400, .inl (fun _ => 0))), (q6, .inl (cA 0, 8, .inl (fun _ => 0)))] := hD
  refine lv_aload_n hx hb dX1_init_53 rfl (lv_at hl 0 rfl) ?_
  refine lv_bipush (v := nI 16) hx hb dX1_init_54 rfl ?_
  refine nw_newa 0 (atype := .int) (ty := .int) (a0 := (16, .inl (fun _ => 0))) hx hb (ht _ ka0) rfl hK rfl (fun _ h => h) hP hD hS hA (fun _ => rfl) (nI_pos (by decide)) (nI_clamp (by decide)) (by decide) (Nat.le_of_ble_eq_true rfl) (Nat.le_of_ble_eq_true rfl) dX1_init_56 (fun q7 H hP hD hS => ?_)
  refine va_putF (ci := 0) (v := .ref q7) (ty := (.array .int)) (C := RX1) (T := TX1) (N := 13) hx hb hts (fun w h => List.mem_cons_of_mem _ (iwX1 w h)) tyX1 tyX1_ok nmX1 hown hK hP hD hS 0 rfl rfl 12 (by decide) (ht _ (xint 65 (by decide +kernel) rfl : Cond.fieldLink RX1 30 "RunJudge$Ground" "kinds" "[I" ∈ xtb)) (fun _ h9 => h9) rfl hin rfl (by decide +kernel) rfl rfl (Nat.le_of_ble_eq_true rfl) dX1_init_58 (fun H locs hP hD hS => ?_)
  have hP : va_P D vwCl [(h0, .inr (0, [.int 0, .int 0, .int 0, .int 0, .int 0, .int 0, .ref q1, .ref q2, .ref q3, .ref q4, .ref q5, .ref q6, .ref q7])), (q1, .inl (cA 0, 100, .inl (fun _ => 0))), (q2, .inl (cA 0, 100, .inl (fun _ => 0))), (q3, .inl (cA 0, 100, .inl (fun _ => 0))), (q4, .inl (cA 0, 100, .inl (fun _ => 0))), (q5, .inl (cA 0, 400, .inl (fun _ => 0))), (q6, .inl (cA 0, 8, .inl (fun _ => 0))), (q7, .inl (cA 0, 16, .inl (fun _ => 0)))] H := hP
  have hD : va_D A [(h0, .inr (0, [.int 0, .int 0, .int 0, .int 0, .int 0, .int 0, .ref q1, .ref q2, .ref q3, .ref q4, .ref q5, .ref q6, .ref q7])), (q1, .inl (cA 0, 100, .inl (fun _ => 0))), (q2, .inl (cA 0, 100, .inl (fun _ => 0))), (q3, .inl (cA 0, 100, .inl (fun _ => 0))), (q4, .inl (cA 0, 100, .inl (fun _ => 0))), (q5, .inl (cA 0, 400, .inl (fun _ => 0))), (q6, .inl (cA 0, 8, .inl (fun _ => 0))), (q7, .inl (cA 0, 16, .inl (fun _ => 0)))] := hD
  obtain ⟨ad, had⟩ : ∃ ad : Nat → Nat, ad = fun i => match i with
    | 0 => h0
    | 1 => q1
    | 2 => q2
    | 3 => q3
    | 4 => q4
    | 5 => q5
    | 6 => q6
    | 7 => q7
    | _ => 0 := ⟨_, rfl⟩
  have hw : [(h0, .inr (0, [.int 0, .int 0, .int 0, .int 0, .int 0, .int 0, .ref q1, .ref q2, .ref q3, .ref q4, .ref q5, .ref q6, .ref q7])), (q1, .inl (cA 0, 100, .inl (fun _ => 0))), (q2, .inl (cA 0, 100, .inl (fun _ => 0))), (q3, .inl (cA 0, 100, .inl (fun _ => 0))), (q4, .inl (cA 0, 100, .inl (fun _ => 0))), (q5, .inl (cA 0, 400, .inl (fun _ => 0))), (q6, .inl (cA 0, 8, .inl (fun _ => 0))), (q7, .inl (cA 0, 16, .inl (fun _ => 0)))] = xW cA ad shX1 zM := by rw [had]; rfl
  rw [hw] at hP hD
  exact W.vret hx hb hr (fun t ht hW => ⟨⟨ad, rfl, (show ad 0 = h0 by rw [had]; rfl), by rw [ht]; exact hP, hD⟩, hS.F ht⟩) hS.2.2 dX1_init_61 hlocks
def shX2 : List xSh := [.inl (1, [none, none, none, none, some 1, some 2]), .inr (0, 256, xno), .inr (0, 32, xno)]
abbrev mX2_init : xY := (yX2_init, cX2_init, 1, none, 1, 20)
set_option maxHeartbeats 4000000 in
set_option maxRecDepth 100000 in
theorem n_X2 (l : Launch) (D : va_G) (cA : Nat → ClassId) (h0 sz : Nat) : Met l yX2_init (xws mX2_init) { frames := 1, cells := 2, slots := 288, locals := 20 } (va_Pc [.ref h0] (nP D cA (h0, .inr (1, [.int 0, .int 0, .int 0, .int 0, .null, .null])) sz)) (nQ D cA shX2 (fun ad => ad 0 = h0) (va_A [(h0, .inr (1, [.int 0, .int 0, .int 0, .int 0, .null, .null]))] sz)) 2 288 (va_A [(h0, .inr (1, [.int 0, .int 0, .int 0, .int 0, .null, .null]))] sz) := by
  refine xOfW (cc := cX2_init) (maxL := 1) (ret := none) (plainFor_of_name (by decide +kernel)) rfl ?_
  intro p e s m args below meth c s₁ B hml hv
  obtain ⟨rfl, hsz, hP, hK, hD0⟩ := hv
  have hx := B.exec
  have hb := B.bytes
  have hr := B.returns
  have hts := atoms_spec (ws := xws mX2_init) B.pre
  have hown : s.vm.findClass RX2 = some m.cls := findClass_of_methodNamed B.named
  have hlocks := B.notSynchronized
  have hin : meth.name = "<init>" := (name_of_methodNamed B.named B.method).1
  have ht : ∀ w ∈ xtb, w.before ([.ref h0] : List Value).toArray s = true := fun w h => hts w (List.mem_cons_of_mem _ h)
  subst hsz
  have hD := hD0.self (sz := s.heap.size)
  generalize hAe : va_A [(h0, .inr (1, [.int 0, .int 0, .int 0, .int 0, .null, .null]))] s.heap.size = A at hD ⊢
  have hA : ∀ q : Nat, s.heap.size ≤ q → A q := fun q h => by rw [← hAe]; exact Or.inr h
  have hS : va_S A s.heap s.heap [] := va_S.rf
  have hl := lv_entry ([.ref h0]) (n := 1) (Nat.le_of_ble_eq_true rfl)
  rw [lg_entry_eq]
  generalize (lg_sl ([.ref h0]) ++ List.replicate (1 - (lg_sl ([.ref h0])).length) Slot.unset).toArray = ls at hl ⊢
  have hl : lv_has ls 1 [(0, .ref h0)] := hl
  refine lv_aload_n hx hb dX2_init_0 rfl (lv_at hl 0 rfl) ?_
  refine W.objInit hx hb hown (ht _ (xint 178 (by decide +kernel) rfl : Cond.methodLink RX2 3 Lib.objectInit ∈ xtb)) (ht _ kOi) (ht _ kOc) rfl (by rw [hml]; exact hl.1) rfl dX2_init_1 (Nat.le_of_ble_eq_true rfl) (Nat.le_of_ble_eq_true rfl) ?_
  refine W.eq (g2 := F0 m 4 ls []) rfl ?_
  refine lv_aload_n hx hb dX2_init_4 rfl (lv_at hl 0 rfl) ?_
  refine lv_sipush (v := nI 256) hx hb dX2_init_5 rfl ?_
  refine nw_newa 0 (atype := .int) (ty := .int) (a0 := (256, .inl (fun _ => 0))) hx hb (ht _ ka0) rfl hK rfl (fun _ h => h) hP hD hS hA (fun _ => rfl) (nI_pos (by decide)) (nI_clamp (by decide)) (by decide) (Nat.le_of_ble_eq_true rfl) (Nat.le_of_ble_eq_true rfl) dX2_init_8 (fun q1 H hP hD hS => ?_)
  refine va_putF (ci := 1) (v := .ref q1) (ty := (.array .int)) (C := RX2) (T := TX2) (N := 6) hx hb hts (fun w h => List.mem_cons_of_mem _ (iwX2 w h)) tyX2 tyX2_ok nmX2 hown hK hP hD hS 0 rfl rfl 4 (by decide) (ht _ (xint 187 (by decide +kernel) rfl : Cond.fieldLink RX2 9 "RunJudge$Ledger" "notes" "[I" ∈ xtb)) (fun _ h9 => h9) rfl hin rfl (by decide +kernel) rfl rfl (Nat.le_of_ble_eq_true rfl) dX2_init_10 (fun H locs hP hD hS => ?_)
  have hP : va_P D vwCl [(h0, .inr (1, [.int 0, .int 0, .int 0, .int 0, .ref q1, .null])), (q1, .inl (cA 0, 256, .inl (fun _ => 0)))] H := hP
  have hD : va_D A [(h0, .inr (1, [.int 0, .int 0, .int 0, .int 0, .ref q1, .null])), (q1, .inl (cA 0, 256, .inl (fun _ => 0)))] := hD
  refine lv_aload_n hx hb dX2_init_13 rfl (lv_at hl 0 rfl) ?_
  refine lv_bipush (v := nI 32) hx hb dX2_init_14 rfl ?_
  refine nw_newa 0 (atype := .int) (ty := .int) (a0 := (32, .inl (fun _ => 0))) hx hb (ht _ ka0) rfl hK rfl (fun _ h => h) hP hD hS hA (fun _ => rfl) (nI_pos (by decide)) (nI_clamp (by decide)) (by decide) (Nat.le_of_ble_eq_true rfl) (Nat.le_of_ble_eq_true rfl) dX2_init_16 (fun q2 H hP hD hS => ?_)
  refine va_putF (ci := 1) (v := .ref q2) (ty := (.array .int)) (C := RX2) (T := TX2) (N := 6) hx hb hts (fun w h => List.mem_cons_of_mem _ (iwX2 w h)) tyX2 tyX2_ok nmX2 hown hK hP hD hS 0 rfl rfl 5 (by decide) (ht _ (xint 189 (by decide +kernel) rfl : Cond.fieldLink RX2 15 "RunJudge$Ledger" "hitsAhead" "[I" ∈ xtb)) (fun _ h9 => h9) rfl hin rfl (by decide +kernel) rfl rfl (Nat.le_of_ble_eq_true rfl) dX2_init_18 (fun H locs hP hD hS => ?_)
  have hP : va_P D vwCl [(h0, .inr (1, [.int 0, .int 0, .int 0, .int 0, .ref q1, .ref q2])), (q1, .inl (cA 0, 256, .inl (fun _ => 0))), (q2, .inl (cA 0, 32, .inl (fun _ => 0)))] H := hP
  have hD : va_D A [(h0, .inr (1, [.int 0, .int 0, .int 0, .int 0, .ref q1, .ref q2])), (q1, .inl (cA 0, 256, .inl (fun _ => 0))), (q2, .inl (cA 0, 32, .inl (fun _ => 0)))] := hD
  obtain ⟨ad, had⟩ : ∃ ad : Nat → Nat, ad = fun i => match i with
    | 0 => h0
    | 1 => q1
    | 2 => q2
    | _ => 0 := ⟨_, rfl⟩
  have hw : [(h0, .inr (1, [.int 0, .int 0, .int 0, .int 0, .ref q1, .ref q2])), (q1, .inl (cA 0, 256, .inl (fun _ => 0))), (q2, .inl (cA 0, 32, .inl (fun _ => 0)))] = xW cA ad shX2 zM := by rw [had]; rfl
  rw [hw] at hP hD
  exact W.vret hx hb hr (fun t ht hW => ⟨⟨ad, rfl, (show ad 0 = h0 by rw [had]; rfl), by rw [ht]; exact hP, hD⟩, hS.F ht⟩) hS.2.2 dX2_init_21 hlocks
def shX3 : List xSh := [.inl (2, [some 1, some 2, some 3]), .inr (0, 2000, xno), .inr (1, 2000, xno), .inr (1, 2000, xno)]
abbrev mX3_init : xY := (yX3_init, cX3_init, 1, none, 1, 20)
set_option maxHeartbeats 4000000 in
set_option maxRecDepth 100000 in
theorem n_X3 (l : Launch) (D : va_G) (cA : Nat → ClassId) (h0 sz : Nat) : Met l yX3_init (xws mX3_init) { frames := 1, cells := 3, slots := 6000, locals := 20 } (va_Pc [.ref h0] (nP D cA (h0, .inr (2, [.null, .null, .null])) sz)) (nQ D cA shX3 (fun ad => ad 0 = h0) (va_A [(h0, .inr (2, [.null, .null, .null]))] sz)) 3 6000 (va_A [(h0, .inr (2, [.null, .null, .null]))] sz) := by
  refine xOfW (cc := cX3_init) (maxL := 1) (ret := none) (plainFor_of_name (by decide +kernel)) rfl ?_
  intro p e s m args below meth c s₁ B hml hv
  obtain ⟨rfl, hsz, hP, hK, hD0⟩ := hv
  have hx := B.exec
  have hb := B.bytes
  have hr := B.returns
  have hts := atoms_spec (ws := xws mX3_init) B.pre
  have hown : s.vm.findClass RX3 = some m.cls := findClass_of_methodNamed B.named
  have hlocks := B.notSynchronized
  have hin : meth.name = "<init>" := (name_of_methodNamed B.named B.method).1
  have ht : ∀ w ∈ xtb, w.before ([.ref h0] : List Value).toArray s = true := fun w h => hts w (List.mem_cons_of_mem _ h)
  subst hsz
  have hD := hD0.self (sz := s.heap.size)
  generalize hAe : va_A [(h0, .inr (2, [.null, .null, .null]))] s.heap.size = A at hD ⊢
  have hA : ∀ q : Nat, s.heap.size ≤ q → A q := fun q h => by rw [← hAe]; exact Or.inr h
  have hS : va_S A s.heap s.heap [] := va_S.rf
  have hl := lv_entry ([.ref h0]) (n := 1) (Nat.le_of_ble_eq_true rfl)
  rw [lg_entry_eq]
  generalize (lg_sl ([.ref h0]) ++ List.replicate (1 - (lg_sl ([.ref h0])).length) Slot.unset).toArray = ls at hl ⊢
  have hl : lv_has ls 1 [(0, .ref h0)] := hl
  refine lv_aload_n hx hb dX3_init_0 rfl (lv_at hl 0 rfl) ?_
  refine W.objInit hx hb hown (ht _ (xint 161 (by decide +kernel) rfl : Cond.methodLink RX3 3 Lib.objectInit ∈ xtb)) (ht _ kOi) (ht _ kOc) rfl (by rw [hml]; exact hl.1) rfl dX3_init_1 (Nat.le_of_ble_eq_true rfl) (Nat.le_of_ble_eq_true rfl) ?_
  refine W.eq (g2 := F0 m 4 ls []) rfl ?_
  refine lv_aload_n hx hb dX3_init_4 rfl (lv_at hl 0 rfl) ?_
  refine lv_sipush (v := nI 2000) hx hb dX3_init_5 rfl ?_
  refine nw_newa 0 (atype := .int) (ty := .int) (a0 := (2000, .inl (fun _ => 0))) hx hb (ht _ ka0) rfl hK rfl (fun _ h => h) hP hD hS hA (fun _ => rfl) (nI_pos (by decide)) (nI_clamp (by decide)) (by decide) (Nat.le_of_ble_eq_true rfl) (Nat.le_of_ble_eq_true rfl) dX3_init_8 (fun q1 H hP hD hS => ?_)
  refine va_putF (ci := 2) (v := .ref q1) (ty := (.array .int)) (C := RX3) (T := TX3) (N := 3) hx hb hts (fun w h => List.mem_cons_of_mem _ (iwX3 w h)) tyX3 tyX3_ok nmX3 hown hK hP hD hS 0 rfl rfl 0 (by decide) (ht _ (xint 162 (by decide +kernel) rfl : Cond.fieldLink RX3 9 "RunJudge$Log" "codes" "[I" ∈ xtb)) (fun _ h9 => h9) rfl hin rfl (by decide +kernel) rfl rfl (Nat.le_of_ble_eq_true rfl) dX3_init_10 (fun H locs hP hD hS => ?_)
  have hP : va_P D vwCl [(h0, .inr (2, [.ref q1, .null, .null])), (q1, .inl (cA 0, 2000, .inl (fun _ => 0)))] H := hP
  have hD : va_D A [(h0, .inr (2, [.ref q1, .null, .null])), (q1, .inl (cA 0, 2000, .inl (fun _ => 0)))] := hD
  refine lv_aload_n hx hb dX3_init_13 rfl (lv_at hl 0 rfl) ?_
  refine lv_sipush (v := nI 2000) hx hb dX3_init_14 rfl ?_
  refine nw_newa 1 (atype := .byte) (ty := .byte) (a0 := (2000, .inl (fun _ => 0))) hx hb (ht _ ka1) rfl hK rfl (fun _ h => h) hP hD hS hA (fun _ => rfl) (nI_pos (by decide)) (nI_clamp (by decide)) (by decide) (Nat.le_of_ble_eq_true rfl) (Nat.le_of_ble_eq_true rfl) dX3_init_17 (fun q2 H hP hD hS => ?_)
  refine va_putF (ci := 2) (v := .ref q2) (ty := (.array .byte)) (C := RX3) (T := TX3) (N := 3) hx hb hts (fun w h => List.mem_cons_of_mem _ (iwX3 w h)) tyX3 tyX3_ok nmX3 hown hK hP hD hS 0 rfl rfl 1 (by decide) (ht _ (xint 163 (by decide +kernel) rfl : Cond.fieldLink RX3 15 "RunJudge$Log" "hits" "[B" ∈ xtb)) (fun _ h9 => h9) rfl hin rfl (by decide +kernel) rfl rfl (Nat.le_of_ble_eq_true rfl) dX3_init_19 (fun H locs hP hD hS => ?_)
  have hP : va_P D vwCl [(h0, .inr (2, [.ref q1, .ref q2, .null])), (q1, .inl (cA 0, 2000, .inl (fun _ => 0))), (q2, .inl (cA 1, 2000, .inl (fun _ => 0)))] H := hP
  have hD : va_D A [(h0, .inr (2, [.ref q1, .ref q2, .null])), (q1, .inl (cA 0, 2000, .inl (fun _ => 0))), (q2, .inl (cA 1, 2000, .inl (fun _ => 0)))] := hD
  refine lv_aload_n hx hb dX3_init_22 rfl (lv_at hl 0 rfl) ?_
  refine lv_sipush (v := nI 2000) hx hb dX3_init_23 rfl ?_
  refine nw_newa 1 (atype := .byte) (ty := .byte) (a0 := (2000, .inl (fun _ => 0))) hx hb (ht _ ka1) rfl hK rfl (fun _ h => h) hP hD hS hA (fun _ => rfl) (nI_pos (by decide)) (nI_clamp (by decide)) (by decide) (Nat.le_of_ble_eq_true rfl) (Nat.le_of_ble_eq_true rfl) dX3_init_26 (fun q3 H hP hD hS => ?_)
  refine va_putF (ci := 2) (v := .ref q3) (ty := (.array .byte)) (C := RX3) (T := TX3) (N := 3) hx hb hts (fun w h => List.mem_cons_of_mem _ (iwX3 w h)) tyX3 tyX3_ok nmX3 hown hK hP hD hS 0 rfl rfl 2 (by decide) (ht _ (xint 164 (by decide +kernel) rfl : Cond.fieldLink RX3 19 "RunJudge$Log" "lateMarks" "[B" ∈ xtb)) (fun _ h9 => h9) rfl hin rfl (by decide +kernel) rfl rfl (Nat.le_of_ble_eq_true rfl) dX3_init_28 (fun H locs hP hD hS => ?_)
  have hP : va_P D vwCl [(h0, .inr (2, [.ref q1, .ref q2, .ref q3])), (q1, .inl (cA 0, 2000, .inl (fun _ => 0))), (q2, .inl (cA 1, 2000, .inl (fun _ => 0))), (q3, .inl (cA 1, 2000, .inl (fun _ => 0)))] H := hP
  have hD : va_D A [(h0, .inr (2, [.ref q1, .ref q2, .ref q3])), (q1, .inl (cA 0, 2000, .inl (fun _ => 0))), (q2, .inl (cA 1, 2000, .inl (fun _ => 0))), (q3, .inl (cA 1, 2000, .inl (fun _ => 0)))] := hD
  obtain ⟨ad, had⟩ : ∃ ad : Nat → Nat, ad = fun i => match i with
    | 0 => h0
    | 1 => q1
    | 2 => q2
    | 3 => q3
    | _ => 0 := ⟨_, rfl⟩
  have hw : [(h0, .inr (2, [.ref q1, .ref q2, .ref q3])), (q1, .inl (cA 0, 2000, .inl (fun _ => 0))), (q2, .inl (cA 1, 2000, .inl (fun _ => 0))), (q3, .inl (cA 1, 2000, .inl (fun _ => 0)))] = xW cA ad shX3 zM := by rw [had]; rfl
  rw [hw] at hP hD
  exact W.vret hx hb hr (fun t ht hW => ⟨⟨ad, rfl, (show ad 0 = h0 by rw [had]; rfl), by rw [ht]; exact hP, hD⟩, hS.F ht⟩) hS.2.2 dX3_init_31 hlocks
def shX6 : List xSh := [.inl (5, [some 10, some 1, some 2, some 3, some 4, some 5, some 6, some 7, some 8, some 9]), .inr (0, 16, xno), .inr (0, 16, xno), .inr (0, 16, xno), .inr (0, 4, xno), .inr (0, 4, xno), .inr (0, 4, xno), .inr (0, 4, xno), .inr (0, 4, xno), .inr (0, 8, xno)]
abbrev mX6_init : xY := (yX6_init, cX6_init, 2, none, 1, 20)
set_option maxHeartbeats 4000000 in
set_option maxRecDepth 100000 in
theorem n_X6 (l : Launch) (D : va_G) (cA : Nat → ClassId) (h0 g sz : Nat) : Met l yX6_init (xws mX6_init) { frames := 1, cells := 9, slots := 76, locals := 20 } (va_Pc [.ref h0, .ref g] (nP D cA (h0, .inr (5, [.null, .null, .null, .null, .null, .null, .null, .null, .null, .null])) sz)) (nQ D cA shX6 (fun ad => ad 0 = h0 ∧ ad 10 = g) (va_A [(h0, .inr (5, [.null, .null, .null, .null, .null, .null, .null, .null, .null, .null]))] sz)) 9 76 (va_A [(h0, .inr (5, [.null, .null, .null, .null, .null, .null, .null, .null, .null, .null]))] sz) := by
  refine xOfW (cc := cX6_init) (maxL := 2) (ret := none) (plainFor_of_name (by decide +kernel)) rfl ?_
  intro p e s m args below meth c s₁ B hml hv
  obtain ⟨rfl, hsz, hP, hK, hD0⟩ := hv
  have hx := B.exec
  have hb := B.bytes
  have hr := B.returns
  have hts := atoms_spec (ws := xws mX6_init) B.pre
  have hown : s.vm.findClass RX6 = some m.cls := findClass_of_methodNamed B.named
  have hlocks := B.notSynchronized
  have hin : meth.name = "<init>" := (name_of_methodNamed B.named B.method).1
  have ht : ∀ w ∈ xtb, w.before ([.ref h0, .ref g] : List Value).toArray s = true := fun w h => hts w (List.mem_cons_of_mem _ h)
  subst hsz
  have hD := hD0.self (sz := s.heap.size)
  generalize hAe : va_A [(h0, .inr (5, [.null, .null, .null, .null, .null, .null, .null, .null, .null, .null]))] s.heap.size = A at hD ⊢
  have hA : ∀ q : Nat, s.heap.size ≤ q → A q := fun q h => by rw [← hAe]; exact Or.inr h
  have hS : va_S A s.heap s.heap [] := va_S.rf
  have hl := lv_entry ([.ref h0, .ref g]) (n := 2) (Nat.le_of_ble_eq_true rfl)
  rw [lg_entry_eq]
  generalize (lg_sl ([.ref h0, .ref g]) ++ List.replicate (2 - (lg_sl ([.ref h0, .ref g])).length) Slot.unset).toArray = ls at hl ⊢
  have hl : lv_has ls 2 [(0, .ref h0), (1, .ref g)] := hl
  refine lv_aload_n hx hb dX6_init_0 rfl (lv_at hl 0 rfl) ?_
  refine W.objInit hx hb hown (ht _ (xint 101 (by decide +kernel) rfl : Cond.methodLink RX6 3 Lib.objectInit ∈ xtb)) (ht _ kOi) (ht _ kOc) rfl (by rw [hml]; exact hl.1) rfl dX6_init_1 (Nat.le_of_ble_eq_true rfl) (Nat.le_of_ble_eq_true rfl) ?_
  refine W.eq (g2 := F0 m 4 ls []) rfl ?_
  refine lv_aload_n hx hb dX6_init_4 rfl (lv_at hl 0 rfl) ?_
  refine lv_bipush (v := nI 16) hx hb dX6_init_5 rfl ?_
  refine nw_newa 0 (atype := .int) (ty := .int) (a0 := (16, .inl (fun _ => 0))) hx hb (ht _ ka0) rfl hK rfl (fun _ h => h) hP hD hS hA (fun _ => rfl) (nI_pos (by decide)) (nI_clamp (by decide)) (by decide) (Nat.le_of_ble_eq_true rfl) (Nat.le_of_ble_eq_true rfl) dX6_init_7 (fun q1 H hP hD hS => ?_)
  refine va_putF (ci := 5) (v := .ref q1) (ty := (.array .int)) (C := RX6) (T := TX6) (N := 10) hx hb hts (fun w h => List.mem_cons_of_mem _ (iwX6 w h)) tyX6 tyX6_ok nmX6 hown hK hP hD hS 0 rfl rfl 1 (by decide) (ht _ (xint 104 (by decide +kernel) rfl : Cond.fieldLink RX6 9 "RunJudge$State" "cell" "[I" ∈ xtb)) (fun _ h9 => h9) rfl hin rfl (by decide +kernel) rfl rfl (Nat.le_of_ble_eq_true rfl) dX6_init_9 (fun H locs hP hD hS => ?_)
  have hP : va_P D vwCl [(h0, .inr (5, [.null, .ref q1, .null, .null, .null, .null, .null, .null, .null, .null])), (q1, .inl (cA 0, 16, .inl (fun _ => 0)))] H := hP
  have hD : va_D A [(h0, .inr (5, [.null, .ref q1, .null, .null, .null, .null, .null, .null, .null, .null])), (q1, .inl (cA 0, 16, .inl (fun _ => 0)))] := hD
  refine lv_aload_n hx hb dX6_init_12 rfl (lv_at hl 0 rfl) ?_
  refine lv_bipush (v := nI 16) hx hb dX6_init_13 rfl ?_
  refine nw_newa 0 (atype := .int) (ty := .int) (a0 := (16, .inl (fun _ => 0))) hx hb (ht _ ka0) rfl hK rfl (fun _ h => h) hP hD hS hA (fun _ => rfl) (nI_pos (by decide)) (nI_clamp (by decide)) (by decide) (Nat.le_of_ble_eq_true rfl) (Nat.le_of_ble_eq_true rfl) dX6_init_15 (fun q2 H hP hD hS => ?_)
  refine va_putF (ci := 5) (v := .ref q2) (ty := (.array .int)) (C := RX6) (T := TX6) (N := 10) hx hb hts (fun w h => List.mem_cons_of_mem _ (iwX6 w h)) tyX6 tyX6_ok nmX6 hown hK hP hD hS 0 rfl rfl 2 (by decide) (ht _ (xint 106 (by decide +kernel) rfl : Cond.fieldLink RX6 15 "RunJudge$State" "life" "[I" ∈ xtb)) (fun _ h9 => h9) rfl hin rfl (by decide +kernel) rfl rfl (Nat.le_of_ble_eq_true rfl) dX6_init_17 (fun H locs hP hD hS => ?_)
  have hP : va_P D vwCl [(h0, .inr (5, [.null, .ref q1, .ref q2, .null, .null, .null, .null, .null, .null, .null])), (q1, .inl (cA 0, 16, .inl (fun _ => 0))), (q2, .inl (cA 0, 16, .inl (fun _ => 0)))] H := hP
  have hD : va_D A [(h0, .inr (5, [.null, .ref q1, .ref q2, .null, .null, .null, .null, .null, .null, .null])), (q1, .inl (cA 0, 16, .inl (fun _ => 0))), (q2, .inl (cA 0, 16, .inl (fun _ => 0)))] := hD
  refine lv_aload_n hx hb dX6_init_20 rfl (lv_at hl 0 rfl) ?_
  refine lv_bipush (v := nI 16) hx hb dX6_init_21 rfl ?_
  refine nw_newa 0 (atype := .int) (ty := .int) (a0 := (16, .inl (fun _ => 0))) hx hb (ht _ ka0) rfl hK rfl (fun _ h => h) hP hD hS hA (fun _ => rfl) (nI_pos (by decide)) (nI_clamp (by decide)) (by decide) (Nat.le_of_ble_eq_true rfl) (Nat.le_of_ble_eq_true rfl) dX6_init_23 (fun q3 H hP hD hS => ?_)
  refine va_putF (ci := 5) (v := .ref q3) (ty := (.array .int)) (C := RX6) (T := TX6) (N := 10) hx hb hts (fun w h => List.mem_cons_of_mem _ (iwX6 w h)) tyX6 tyX6_ok nmX6 hown hK hP hD hS 0 rfl rfl 3 (by decide) (ht _ (xint 108 (by decide +kernel) rfl : Cond.fieldLink RX6 18 "RunJudge$State" "bearer" "[I" ∈ xtb)) (fun _ h9 => h9) rfl hin rfl (by decide +kernel) rfl rfl (Nat.le_of_ble_eq_true rfl) dX6_init_25 (fun H locs hP hD hS => ?_)
  have hP : va_P D vwCl [(h0, .inr (5, [.null, .ref q1, .ref q2, .ref q3, .null, .null, .null, .null, .null, .null])), (q1, .inl (cA 0, 16, .inl (fun _ => 0))), (q2, .inl (cA 0, 16, .inl (fun _ => 0))), (q3, .inl (cA 0, 16, .inl (fun _ => 0)))] H := hP
  have hD : va_D A [(h0, .inr (5, [.null, .ref q1, .ref q2, .ref q3, .null, .null, .null, .null, .null, .null])), (q1, .inl (cA 0, 16, .inl (fun _ => 0))), (q2, .inl (cA 0, 16, .inl (fun _ => 0))), (q3, .inl (cA 0, 16, .inl (fun _ => 0)))] := hD
  refine lv_aload_n hx hb dX6_init_28 rfl (lv_at hl 0 rfl) ?_
  refine lv_iconst (v := nI 4) hx hb dX6_init_29 rfl ?_
  refine nw_newa 0 (atype := .int) (ty := .int) (a0 := (4, .inl (fun _ => 0))) hx hb (ht _ ka0) rfl hK rfl (fun _ h => h) hP hD hS hA (fun _ => rfl) (nI_pos (by decide)) (nI_clamp (by decide)) (by decide) (Nat.le_of_ble_eq_true rfl) (Nat.le_of_ble_eq_true rfl) dX6_init_30 (fun q4 H hP hD hS => ?_)
  refine va_putF (ci := 5) (v := .ref q4) (ty := (.array .int)) (C := RX6) (T := TX6) (N := 10) hx hb hts (fun w h => List.mem_cons_of_mem _ (iwX6 w h)) tyX6 tyX6_ok nmX6 hown hK hP hD hS 0 rfl rfl 4 (by decide) (ht _ (xint 110 (by decide +kernel) rfl : Cond.fieldLink RX6 21 "RunJudge$State" "face" "[I" ∈ xtb)) (fun _ h9 => h9) rfl hin rfl (by decide +kernel) rfl rfl (Nat.le_of_ble_eq_true rfl) dX6_init_32 (fun H locs hP hD hS => ?_)
  have hP : va_P D vwCl [(h0, .inr (5, [.null, .ref q1, .ref q2, .ref q3, .ref q4, .null, .null, .null, .null, .null])), (q1, .inl (cA 0, 16, .inl (fun _ => 0))), (q2, .inl (cA 0, 16, .inl (fun _ => 0))), (q3, .inl (cA 0, 16, .inl (fun _ => 0))), (q4, .inl (cA 0, 4, .inl (fun _ => 0)))] H := hP
  have hD : va_D A [(h0, .inr (5, [.null, .ref q1, .ref q2, .ref q3, .ref q4, .null, .null, .null, .null, .null])), (q1, .inl (cA 0, 16, .inl (fun _ => 0))), (q2, .inl (cA 0, 16, .inl (fun _ => 0))), (q3, .inl (cA 0, 16, .inl (fun _ => 0))), (q4, .inl (cA 0, 4, .inl (fun _ => 0)))] := hD
  refine lv_aload_n hx hb dX6_init_35 rfl (lv_at hl 0 rfl) ?_
  refine lv_iconst (v := nI 4) hx hb dX6_init_36 rfl ?_
  refine nw_newa 0 (atype := .int) (ty := .int) (a0 := (4, .inl (fun _ => 0))) hx hb (ht _ ka0) rfl hK rfl (fun _ h => h) hP hD hS hA (fun _ => rfl) (nI_pos (by decide)) (nI_clamp (by decide)) (by decide) (Nat.le_of_ble_eq_true rfl) (Nat.le_of_ble_eq_true rfl) dX6_init_37 (fun q5 H hP hD hS => ?_)
  refine va_putF (ci := 5) (v := .ref q5) (ty := (.array .int)) (C := RX6) (T := TX6) (N := 10) hx hb hts (fun w h => List.mem_cons_of_mem _ (iwX6 w h)) tyX6 tyX6_ok nmX6 hown hK hP hD hS 0 rfl rfl 5 (by decide) (ht _ (xint 112 (by decide +kernel) rfl : Cond.fieldLink RX6 24 "RunJudge$State" "rest" "[I" ∈ xtb)) (fun _ h9 => h9) rfl hin rfl (by decide +kernel) rfl rfl (Nat.le_of_ble_eq_true rfl) dX6_init_39 (fun H locs hP hD hS => ?_)
  have hP : va_P D vwCl [(h0, .inr (5, [.null, .ref q1, .ref q2, .ref q3, .ref q4, .ref q5, .null, .null, .null, .null])), (q1, .inl (cA 0, 16, .inl (fun _ => 0))), (q2, .inl (cA 0, 16, .inl (fun _ => 0))), (q3, .inl (cA 0, 16, .inl (fun _ => 0))), (q4, .inl (cA 0, 4, .inl (fun _ => 0))), (q5, .inl (cA 0, 4, .inl (fun _ => 0)))] H := hP
  have hD : va_D A [(h0, .inr (5, [.null, .ref q1, .ref q2, .ref q3, .ref q4, .ref q5, .null, .null, .null, .null])), (q1, .inl (cA 0, 16, .inl (fun _ => 0))), (q2, .inl (cA 0, 16, .inl (fun _ => 0))), (q3, .inl (cA 0, 16, .inl (fun _ => 0))), (q4, .inl (cA 0, 4, .inl (fun _ => 0))), (q5, .inl (cA 0, 4, .inl (fun _ => 0)))] := hD
  refine lv_aload_n hx hb dX6_init_42 rfl (lv_at hl 0 rfl) ?_
  refine lv_iconst (v := nI 4) hx hb dX6_init_43 rfl ?_
  refine nw_newa 0 (atype := .int) (ty := .int) (a0 := (4, .inl (fun _ => 0))) hx hb (ht _ ka0) rfl hK rfl (fun _ h => h) hP hD hS hA (fun _ => rfl) (nI_pos (by decide)) (nI_clamp (by decide)) (by decide) (Nat.le_of_ble_eq_true rfl) (Nat.le_of_ble_eq_true rfl) dX6_init_44 (fun q6 H hP hD hS => ?_)
  refine va_putF (ci := 5) (v := .ref q6) (ty := (.array .int)) (C := RX6) (T := TX6) (N := 10) hx hb hts (fun w h => List.mem_cons_of_mem _ (iwX6 w h)) tyX6 tyX6_ok nmX6 hown hK hP hD hS 0 rfl rfl 6 (by decide) (ht _ (xint 114 (by decide +kernel) rfl : Cond.fieldLink RX6 27 "RunJudge$State" "load" "[I" ∈ xtb)) (fun _ h9 => h9) rfl hin rfl (by decide +kernel) rfl rfl (Nat.le_of_ble_eq_true rfl) dX6_init_46 (fun H locs hP hD hS => ?_)
  have hP : va_P D vwCl [(h0, .inr (5, [.null, .ref q1, .ref q2, .ref q3, .ref q4, .ref q5, .ref q6, .null, .null, .null])), (q1, .inl (cA 0, 16, .inl (fun _ => 0))), (q2, .inl (cA 0, 16, .inl (fun _ => 0))), (q3, .inl (cA 0, 16, .inl (fun _ => 0))), (q4, .inl (cA 0, 4, .inl (fun _ => 0))), (q5, .inl (cA 0, 4, .inl (fun _ => 0))), (q6, .inl (cA 0, 4, .inl (fun _ => 0)))] H := hP
  have hD : va_D A [(h0, .inr (5, [.null, .ref q1, .ref q2, .ref q3, .ref q4, .ref q5, .ref q6, .null, .null, .null])), (q1, .inl (cA 0, 16, .inl (fun _ => 0))), (q2, .inl (cA 0, 16, .inl (fun _ => 0))), (q3, .inl (cA 0, 16, .inl (fun _ => 0))), (q4, .inl (cA 0, 4, .inl (fun _ => 0))), (q5, .inl (cA 0, 4, .inl (fun _ => 0))), (q6, .inl (cA 0, 4, .inl (fun _ => 0)))] := hD
  refine lv_aload_n hx hb dX6_init_49 rfl (lv_at hl 0 rfl) ?_
  refine lv_iconst (v := nI 4) hx hb dX6_init_50 rfl ?_
  refine nw_newa 0 (atype := .int) (ty := .int) (a0 := (4, .inl (fun _ => 0))) hx hb (ht _ ka0) rfl hK rfl (fun _ h => h) hP hD hS hA (fun _ => rfl) (nI_pos (by decide)) (nI_clamp (by decide)) (by decide) (Nat.le_of_ble_eq_true rfl) (Nat.le_of_ble_eq_true rfl) dX6_init_51 (fun q7 H hP hD hS => ?_)
  refine va_putF (ci := 5) (v := .ref q7) (ty := (.array .int)) (C := RX6) (T := TX6) (N := 10) hx hb hts (fun w h => List.mem_cons_of_mem _ (iwX6 w h)) tyX6 tyX6_ok nmX6 hown hK hP hD hS 0 rfl rfl 7 (by decide) (ht _ (xint 116 (by decide +kernel) rfl : Cond.fieldLink RX6 30 "RunJudge$State" "points" "[I" ∈ xtb)) (fun _ h9 => h9) rfl hin rfl (by decide +kernel) rfl rfl (Nat.le_of_ble_eq_true rfl) dX6_init_53 (fun H locs hP hD hS => ?_)
  have hP : va_P D vwCl [(h0, .inr (5, [.null, .ref q1, .ref q2, .ref q3, .ref q4, .ref q5, .ref q6, .ref q7, .null, .null])), (q1, .inl (cA 0, 16, .inl (fun _ => 0))), (q2, .inl (cA 0, 16, .inl (fun _ => 0))), (q3, .inl (cA 0, 16, .inl (fun _ => 0))), (q4, .inl (cA 0, 4, .inl (fun _ => 0))), (q5, .inl (cA 0, 4, .inl (fun _ => 0))), (q6, .inl (cA 0, 4, .inl (fun _ => 0))), (q7, .inl (cA 0, 4, .inl (fun _ => 0)))] H := hP
  have hD : va_D A [(h0, .inr (5, [.null, .ref q1, .ref q2, .ref q3, .ref q4, .ref q5, .ref q6, .ref q7, .null, .null])), (q1, .inl (cA 0, 16, .inl (fun _ => 0))), (q2, .inl (cA 0, 16, .inl (fun _ => 0))), (q3, .inl (cA 0, 16, .inl (fun _ => 0))), (q4, .inl (cA 0, 4, .inl (fun _ => 0))), (q5, .inl (cA 0, 4, .inl (fun _ => 0))), (q6, .inl (cA 0, 4, .inl (fun _ => 0))), (q7, .inl (cA 0, 4, .inl (fun _ => 0)))] := hD
  refine lv_aload_n hx hb dX6_init_56 rfl (lv_at hl 0 rfl) ?_
  refine lv_iconst (v := nI 4) hx hb dX6_init_57 rfl ?_
  refine nw_newa 0 (atype := .int) (ty := .int) (a0 := (4, .inl (fun _ => 0))) hx hb (ht _ ka0) rfl hK rfl (fun _ h => h) hP hD hS hA (fun _ => rfl) (nI_pos (by decide)) (nI_clamp (by decide)) (by decide) (Nat.le_of_ble_eq_true rfl) (Nat.le_of_ble_eq_true rfl) dX6_init_58 (fun q8 H hP hD hS => ?_)
  refine va_putF (ci := 5) (v := .ref q8) (ty := (.array .int)) (C := RX6) (T := TX6) (N := 10) hx hb hts (fun w h => List.mem_cons_of_mem _ (iwX6 w h)) tyX6 tyX6_ok nmX6 hown hK hP hD hS 0 rfl rfl 8 (by decide) (ht _ (xint 118 (by decide +kernel) rfl : Cond.fieldLink RX6 33 "RunJudge$State" "known" "[I" ∈ xtb)) (fun _ h9 => h9) rfl hin rfl (by decide +kernel) rfl rfl (Nat.le_of_ble_eq_true rfl) dX6_init_60 (fun H locs hP hD hS => ?_)
  have hP : va_P D vwCl [(h0, .inr (5, [.null, .ref q1, .ref q2, .ref q3, .ref q4, .ref q5, .ref q6, .ref q7, .ref q8, .null])), (q1, .inl (cA 0, 16, .inl (fun _ => 0))), (q2, .inl (cA 0, 16, .inl (fun _ => 0))), (q3, .inl (cA 0, 16, .inl (fun _ => 0))), (q4, .inl (cA 0, 4, .inl (fun _ => 0))), (q5, .inl (cA 0, 4, .inl (fun _ => 0))), (q6, .inl (cA 0, 4, .inl (fun _ => 0))), (q7, .inl (cA 0, 4, .inl (fun _ => 0))), (q8, .inl (cA 0, 4, .inl (fun _ => 0)))] H := hP
  have hD : va_D A [(h0, .inr (5, [.null, .ref q1, .ref q2, .ref q3, .ref q4, .ref q5, .ref q6, .ref q7, .ref q8, .null])), (q1, .inl (cA 0, 16, .inl (fun _ => 0))), (q2, .inl (cA 0, 16, .inl (fun _ => 0))), (q3, .inl (cA 0, 16, .inl (fun _ => 0))), (q4, .inl (cA 0, 4, .inl (fun _ => 0))), (q5, .inl (cA 0, 4, .inl (fun _ => 0))), (q6, .inl (cA 0, 4, .inl (fun _ => 0))), (q7, .inl (cA 0, 4, .inl (fun _ => 0))), (q8, .inl (cA 0, 4, .inl (fun _ => 0)))] := hD
  refine lv_aload_n hx hb dX6_init_63 rfl (lv_at hl 0 rfl) ?_
  refine lv_bipush (v := nI 8) hx hb dX6_init_64 rfl ?_
  refine nw_newa 0 (atype := .int) (ty := .int) (a0 := (8, .inl (fun _ => 0))) hx hb (ht _ ka0) rfl hK rfl (fun _ h => h) hP hD hS hA (fun _ => rfl) (nI_pos (by decide)) (nI_clamp (by decide)) (by decide) (Nat.le_of_ble_eq_true rfl) (Nat.le_of_ble_eq_true rfl) dX6_init_66 (fun q9 H hP hD hS => ?_)
  refine va_putF (ci := 5) (v := .ref q9) (ty := (.array .int)) (C := RX6) (T := TX6) (N := 10) hx hb hts (fun w h => List.mem_cons_of_mem _ (iwX6 w h)) tyX6 tyX6_ok nmX6 hown hK hP hD hS 0 rfl rfl 9 (by decide) (ht _ (xint 120 (by decide +kernel) rfl : Cond.fieldLink RX6 36 "RunJudge$State" "opened" "[I" ∈ xtb)) (fun _ h9 => h9) rfl hin rfl (by decide +kernel) rfl rfl (Nat.le_of_ble_eq_true rfl) dX6_init_68 (fun H locs hP hD hS => ?_)
  have hP : va_P D vwCl [(h0, .inr (5, [.null, .ref q1, .ref q2, .ref q3, .ref q4, .ref q5, .ref q6, .ref q7, .ref q8, .ref q9])), (q1, .inl (cA 0, 16, .inl (fun _ => 0))), (q2, .inl (cA 0, 16, .inl (fun _ => 0))), (q3, .inl (cA 0, 16, .inl (fun _ => 0))), (q4, .inl (cA 0, 4, .inl (fun _ => 0))), (q5, .inl (cA 0, 4, .inl (fun _ => 0))), (q6, .inl (cA 0, 4, .inl (fun _ => 0))), (q7, .inl (cA 0, 4, .inl (fun _ => 0))), (q8, .inl (cA 0, 4, .inl (fun _ => 0))), (q9, .inl (cA 0, 8, .inl (fun _ => 0)))] H := hP
  have hD : va_D A [(h0, .inr (5, [.null, .ref q1, .ref q2, .ref q3, .ref q4, .ref q5, .ref q6, .ref q7, .ref q8, .ref q9])), (q1, .inl (cA 0, 16, .inl (fun _ => 0))), (q2, .inl (cA 0, 16, .inl (fun _ => 0))), (q3, .inl (cA 0, 16, .inl (fun _ => 0))), (q4, .inl (cA 0, 4, .inl (fun _ => 0))), (q5, .inl (cA 0, 4, .inl (fun _ => 0))), (q6, .inl (cA 0, 4, .inl (fun _ => 0))), (q7, .inl (cA 0, 4, .inl (fun _ => 0))), (q8, .inl (cA 0, 4, .inl (fun _ => 0))), (q9, .inl (cA 0, 8, .inl (fun _ => 0)))] := hD
  refine lv_aload_n hx hb dX6_init_71 rfl (lv_at hl 0 rfl) ?_
  refine lv_aload_n hx hb dX6_init_72 rfl (lv_at hl 1 rfl) ?_
  refine va_putF (ci := 5) (v := .ref g) (ty := (.object "RunJudge$Ground")) (C := RX6) (T := TX6) (N := 10) hx hb hts (fun w h => List.mem_cons_of_mem _ (iwX6 w h)) tyX6 tyX6_ok nmX6 hown hK hP hD hS 0 rfl rfl 0 (by decide) (ht _ (xint 102 (by decide +kernel) rfl : Cond.fieldLink RX6 39 "RunJudge$State" "ground" "LRunJudge$Ground;" ∈ xtb)) (fun _ h9 => h9) rfl hin rfl (by decide +kernel) rfl rfl (Nat.le_of_ble_eq_true rfl) dX6_init_73 (fun H locs hP hD hS => ?_)
  have hP : va_P D vwCl [(h0, .inr (5, [.ref g, .ref q1, .ref q2, .ref q3, .ref q4, .ref q5, .ref q6, .ref q7, .ref q8, .ref q9])), (q1, .inl (cA 0, 16, .inl (fun _ => 0))), (q2, .inl (cA 0, 16, .inl (fun _ => 0))), (q3, .inl (cA 0, 16, .inl (fun _ => 0))), (q4, .inl (cA 0, 4, .inl (fun _ => 0))), (q5, .inl (cA 0, 4, .inl (fun _ => 0))), (q6, .inl (cA 0, 4, .inl (fun _ => 0))), (q7, .inl (cA 0, 4, .inl (fun _ => 0))), (q8, .inl (cA 0, 4, .inl (fun _ => 0))), (q9, .inl (cA 0, 8, .inl (fun _ => 0)))] H := hP
  have hD : va_D A [(h0, .inr (5, [.ref g, .ref q1, .ref q2, .ref q3, .ref q4, .ref q5, .ref q6, .ref q7, .ref q8, .ref q9])), (q1, .inl (cA 0, 16, .inl (fun _ => 0))), (q2, .inl (cA 0, 16, .inl (fun _ => 0))), (q3, .inl (cA 0, 16, .inl (fun _ => 0))), (q4, .inl (cA 0, 4, .inl (fun _ => 0))), (q5, .inl (cA 0, 4, .inl (fun _ => 0))), (q6, .inl (cA 0, 4, .inl (fun _ => 0))), (q7, .inl (cA 0, 4, .inl (fun _ => 0))), (q8, .inl (cA 0, 4, .inl (fun _ => 0))), (q9, .inl (cA 0, 8, .inl (fun _ => 0)))] := hD
  obtain ⟨ad, had⟩ : ∃ ad : Nat → Nat, ad = fun i => match i with
    | 0 => h0
    | 1 => q1
    | 2 => q2
    | 3 => q3
    | 4 => q4
    | 5 => q5
    | 6 => q6
    | 7 => q7
    | 8 => q8
    | 9 => q9
    | _ => g := ⟨_, rfl⟩
  have hw : [(h0, .inr (5, [.ref g, .ref q1, .ref q2, .ref q3, .ref q4, .ref q5, .ref q6, .ref q7, .ref q8, .ref q9])), (q1, .inl (cA 0, 16, .inl (fun _ => 0))), (q2, .inl (cA 0, 16, .inl (fun _ => 0))), (q3, .inl (cA 0, 16, .inl (fun _ => 0))), (q4, .inl (cA 0, 4, .inl (fun _ => 0))), (q5, .inl (cA 0, 4, .inl (fun _ => 0))), (q6, .inl (cA 0, 4, .inl (fun _ => 0))), (q7, .inl (cA 0, 4, .inl (fun _ => 0))), (q8, .inl (cA 0, 4, .inl (fun _ => 0))), (q9, .inl (cA 0, 8, .inl (fun _ => 0)))] = xW cA ad shX6 zM := by rw [had]; rfl
  rw [hw] at hP hD
  exact W.vret hx hb hr (fun t ht hW => ⟨⟨ad, rfl, ⟨by rw [had]; rfl, by rw [had]; rfl⟩, by rw [ht]; exact hP, hD⟩, hS.F ht⟩) hS.2.2 dX6_init_76 hlocks
def shX8 : List xSh := [.inl (7, [none, none, none, some 1, some 2]), .inr (3, 80, xno), .inr (0, 100, xno)]
abbrev mX8_init : xY := (yX8_init, cX8_init, 1, none, 1, 20)
set_option maxHeartbeats 4000000 in
set_option maxRecDepth 100000 in
theorem n_X8 (l : Launch) (D : va_G) (cA : Nat → ClassId) (h0 sz : Nat) : Met l yX8_init (xws mX8_init) { frames := 1, cells := 2, slots := 180, locals := 20 } (va_Pc [.ref h0] (nP D cA (h0, .inr (7, [.int 0, .int 0, .int 0, .null, .null])) sz)) (nQ D cA shX8 (fun ad => ad 0 = h0) (va_A [(h0, .inr (7, [.int 0, .int 0, .int 0, .null, .null]))] sz)) 2 180 (va_A [(h0, .inr (7, [.int 0, .int 0, .int 0, .null, .null]))] sz) := by
  refine xOfW (cc := cX8_init) (maxL := 1) (ret := none) (plainFor_of_name (by decide +kernel)) rfl ?_
  intro p e s m args below meth c s₁ B hml hv
  obtain ⟨rfl, hsz, hP, hK, hD0⟩ := hv
  have hx := B.exec
  have hb := B.bytes
  have hr := B.returns
  have hts := atoms_spec (ws := xws mX8_init) B.pre
  have hown : s.vm.findClass RX8 = some m.cls := findClass_of_methodNamed B.named
  have hlocks := B.notSynchronized
  have hin : meth.name = "<init>" := (name_of_methodNamed B.named B.method).1
  have ht : ∀ w ∈ xtb, w.before ([.ref h0] : List Value).toArray s = true := fun w h => hts w (List.mem_cons_of_mem _ h)
  subst hsz
  have hD := hD0.self (sz := s.heap.size)
  generalize hAe : va_A [(h0, .inr (7, [.int 0, .int 0, .int 0, .null, .null]))] s.heap.size = A at hD ⊢
  have hA : ∀ q : Nat, s.heap.size ≤ q → A q := fun q h => by rw [← hAe]; exact Or.inr h
  have hS : va_S A s.heap s.heap [] := va_S.rf
  have hl := lv_entry ([.ref h0]) (n := 1) (Nat.le_of_ble_eq_true rfl)
  rw [lg_entry_eq]
  generalize (lg_sl ([.ref h0]) ++ List.replicate (1 - (lg_sl ([.ref h0])).length) Slot.unset).toArray = ls at hl ⊢
  have hl : lv_has ls 1 [(0, .ref h0)] := hl
  refine lv_aload_n hx hb dX8_init_0 rfl (lv_at hl 0 rfl) ?_
  refine W.objInit hx hb hown (ht _ (xint 261 (by decide +kernel) rfl : Cond.methodLink RX8 3 Lib.objectInit ∈ xtb)) (ht _ kOi) (ht _ kOc) rfl (by rw [hml]; exact hl.1) rfl dX8_init_1 (Nat.le_of_ble_eq_true rfl) (Nat.le_of_ble_eq_true rfl) ?_
  refine W.eq (g2 := F0 m 4 ls []) rfl ?_
  refine lv_aload_n hx hb dX8_init_4 rfl (lv_at hl 0 rfl) ?_
  refine lv_bipush (v := nI 80) hx hb dX8_init_5 rfl ?_
  refine nw_newa 3 (atype := .long) (ty := .long) (a0 := (80, .inr (.inl (fun _ => 0)))) hx hb (ht _ ka3) rfl hK rfl (fun _ h => h) hP hD hS hA (fun _ => rfl) (nI_pos (by decide)) (nI_clamp (by decide)) (by decide) (Nat.le_of_ble_eq_true rfl) (Nat.le_of_ble_eq_true rfl) dX8_init_7 (fun q1 H hP hD hS => ?_)
  refine va_putF (ci := 7) (v := .ref q1) (ty := (.array .long)) (C := RX8) (T := TX8) (N := 5) hx hb hts (fun w h => List.mem_cons_of_mem _ (iwX8 w h)) tyX8 tyX8_ok nmX8 hown hK hP hD hS 0 rfl rfl 3 (by decide) (ht _ (xint 267 (by decide +kernel) rfl : Cond.fieldLink RX8 9 "RunJudge$Tape" "row" "[J" ∈ xtb)) (fun _ h9 => h9) rfl hin rfl (by decide +kernel) rfl rfl (Nat.le_of_ble_eq_true rfl) dX8_init_9 (fun H locs hP hD hS => ?_)
  have hP : va_P D vwCl [(h0, .inr (7, [.int 0, .int 0, .int 0, .ref q1, .null])), (q1, .inl (cA 3, 80, .inr (.inl (fun _ => 0))))] H := hP
  have hD : va_D A [(h0, .inr (7, [.int 0, .int 0, .int 0, .ref q1, .null])), (q1, .inl (cA 3, 80, .inr (.inl (fun _ => 0))))] := hD
  refine lv_aload_n hx hb dX8_init_12 rfl (lv_at hl 0 rfl) ?_
  refine lv_bipush (v := nI 100) hx hb dX8_init_13 rfl ?_
  refine nw_newa 0 (atype := .int) (ty := .int) (a0 := (100, .inl (fun _ => 0))) hx hb (ht _ ka0) rfl hK rfl (fun _ h => h) hP hD hS hA (fun _ => rfl) (nI_pos (by decide)) (nI_clamp (by decide)) (by decide) (Nat.le_of_ble_eq_true rfl) (Nat.le_of_ble_eq_true rfl) dX8_init_15 (fun q2 H hP hD hS => ?_)
  refine va_putF (ci := 7) (v := .ref q2) (ty := (.array .int)) (C := RX8) (T := TX8) (N := 5) hx hb hts (fun w h => List.mem_cons_of_mem _ (iwX8 w h)) tyX8 tyX8_ok nmX8 hown hK hP hD hS 0 rfl rfl 4 (by decide) (ht _ (xint 269 (by decide +kernel) rfl : Cond.fieldLink RX8 15 "RunJudge$Tape" "tidings" "[I" ∈ xtb)) (fun _ h9 => h9) rfl hin rfl (by decide +kernel) rfl rfl (Nat.le_of_ble_eq_true rfl) dX8_init_17 (fun H locs hP hD hS => ?_)
  have hP : va_P D vwCl [(h0, .inr (7, [.int 0, .int 0, .int 0, .ref q1, .ref q2])), (q1, .inl (cA 3, 80, .inr (.inl (fun _ => 0)))), (q2, .inl (cA 0, 100, .inl (fun _ => 0)))] H := hP
  have hD : va_D A [(h0, .inr (7, [.int 0, .int 0, .int 0, .ref q1, .ref q2])), (q1, .inl (cA 3, 80, .inr (.inl (fun _ => 0)))), (q2, .inl (cA 0, 100, .inl (fun _ => 0)))] := hD
  obtain ⟨ad, had⟩ : ∃ ad : Nat → Nat, ad = fun i => match i with
    | 0 => h0
    | 1 => q1
    | 2 => q2
    | _ => 0 := ⟨_, rfl⟩
  have hw : [(h0, .inr (7, [.int 0, .int 0, .int 0, .ref q1, .ref q2])), (q1, .inl (cA 3, 80, .inr (.inl (fun _ => 0)))), (q2, .inl (cA 0, 100, .inl (fun _ => 0)))] = xW cA ad shX8 zM := by rw [had]; rfl
  rw [hw] at hP hD
  exact W.vret hx hb hr (fun t ht hW => ⟨⟨ad, rfl, (show ad 0 = h0 by rw [had]; rfl), by rw [ht]; exact hP, hD⟩, hS.F ht⟩) hS.2.2 dX8_init_20 hlocks
