/-! THE SYSTEM AS NUMBERED CELLS. A memory M: int fields, int rows, long rows, each by the cell's number; a shape says what a cell is; WP: from here the method ends, with an answer and a memory that Q holds of. -/
def xtb : List Cond := lw_tbl.filter goodWord
theorem xin {w : Cond} (h : w ∈ lw_tbl) (g : goodWord w = true) : w ∈ xtb := List.mem_filter.mpr ⟨h, g⟩
theorem xinm {w : Cond} (h : w ∈ tables_1) (g : goodWord w = true) : w ∈ xtb := xin (List.mem_append_right _ h) g
theorem xint {w : Cond} (i : Nat) (h : tables_1[i]? = some w) (g : goodWord w = true) : w ∈ xtb := xin (List.mem_append_right _ (List.mem_of_getElem? h)) g
theorem xins {w : Cond} (i : Nat) (h : (k2_sels lw_privs)[i]? = some w) (g : goodWord w = true) : w ∈ xtb := xin (List.mem_append_left _ (List.mem_of_getElem? h)) g
abbrev xM : Type := (Nat → Nat → Int32) × (Nat → Nat → Int32) × (Nat → Nat → Int64)
abbrev xSh : Type := (Nat × List (Option Nat)) ⊕ (Nat × Nat × (Nat → Option Nat))
abbrev xY : Type := MethodName × ByteArray × Nat × Option FieldType × Nat × Nat
def xrm (Y : xY) : Room := { frames := Y.2.2.2.2.1, cells := 0, slots := 0, locals := Y.2.2.2.2.2 }
def xws (Y : xY) : List Cond := .code Y.1 Y.2.1 Y.2.2.1 Y.2.2.2.1 :: xtb
theorem xgood {Y Z : xY} (h : Cond.code Z.1 Z.2.1 Z.2.2.1 Z.2.2.2.1 ∈ xtb) : GoodIn (xws Y) (xws Z) := by
  have key : ∀ w ∈ xtb, w ∈ xws Y ∧ ((w.onTables && w.keeps) = true ∨ ∃ ty, w = .arrayClass ty) := fun w hw => ⟨List.mem_cons_of_mem _ hw, good_of_word (List.mem_filter.mp hw).2⟩
  intro w hw
  rcases List.mem_cons.mp hw with rfl | hw
  · exact key _ h
  · exact key _ hw
def xtys (cA : Nat → ClassId) : List (ClassId × FieldType) := [(cA 0, .int), (cA 1, .byte), (cA 2, .boolean), (cA 3, .long), (cA 4, .object "RunJudge$State"), (cA 5, .object "RunJudge$Suspect"), (cA 6, .object "RunJudge$Tape")]
def xv (ad : Nat → Nat) : Value → Value
  | .ref i => .ref (ad i)
  | v => v
theorem xv_cat (ad : Nat → Nat) (v : Value) : (xv ad v).category = v.category := by cases v <;> rfl
def xA (ad : Nat → Nat) (M : xM) (i : Nat) (t : Nat) (g : Nat → Option Nat) : (Nat → Int32) ⊕ (Nat → Int64) ⊕ (Nat → UInt32) ⊕ (Nat → UInt64) ⊕ (Nat → Option Nat) := match t with
  | 0 => .inl (M.2.1 i)
  | 1 => .inl (M.2.1 i)
  | 2 => .inl (M.2.1 i)
  | 3 => .inr (.inl (M.2.2 i))
  | _ => .inr (.inr (.inr (.inr (fun k => (g k).map ad))))
def xF (ad : Nat → Nat) (f : Nat → Int32) (ks : List (Option Nat)) : List Value := ks.mapIdx (fun k d => match d with
  | none => .int (f k)
  | some j => .ref (ad j))
def xE (cA : Nat → ClassId) (ad : Nat → Nat) (M : xM) (i : Nat) : xSh → va_E
  | .inl o => .inr (o.1, xF ad (M.1 i) o.2)
  | .inr a => .inl (cA a.1, a.2.1, xA ad M i a.1 a.2.2)
def xW (cA : Nat → ClassId) (ad : Nat → Nat) (sh : List xSh) (M : xM) : va_W := sh.mapIdx (fun i q => (ad i, xE cA ad M i q))
theorem xW_at {cA : Nat → ClassId} {ad : Nat → Nat} {sh : List xSh} {M : xM} {i : Nat} {q : xSh} (h : sh[i]? = some q) : (xW cA ad sh M)[i]? = some (ad i, xE cA ad M i q) := by
  simp [xW, h]
theorem xE_congr {cA : Nat → ClassId} {ad : Nat → Nat} {M M' : xM} {j : Nat} {q : xSh} (h : M'.1 j = M.1 j ∧ M'.2.1 j = M.2.1 j ∧ M'.2.2 j = M.2.2 j) : xE cA ad M' j q = xE cA ad M j q := by
  cases q with
  | inl o => simp only [xE, h.1]
  | inr a =>
    obtain ⟨t, n, g⟩ := a
    simp only [xE]
    congr 3
    unfold xA
    split <;> simp only [h.2.1, h.2.2]
theorem xW_set {cA : Nat → ClassId} {ad : Nat → Nat} {sh : List xSh} {M M' : xM} {i : Nat} {q : xSh} {e : va_E} (h : sh[i]? = some q) (he : e = xE cA ad M' i q) (hM : ∀ j, j ≠ i → M'.1 j = M.1 j ∧ M'.2.1 j = M.2.1 j ∧ M'.2.2 j = M.2.2 j) : (xW cA ad sh M).set i (ad i, e) = xW cA ad sh M' := by
  subst he
  apply List.ext_getElem?
  intro j
  have hl : i < (xW cA ad sh M).length := (List.getElem?_eq_some_iff.mp (xW_at (cA := cA) (ad := ad) (M := M) h)).1
  by_cases hj : j = i
  · subst hj
    rw [List.getElem?_set_self hl, xW_at h]
  · rw [List.getElem?_set_ne (Ne.symm hj)]
    cases hq : sh[j]? with
    | none => simp [xW, hq]
    | some q' => rw [xW_at hq, xW_at hq, xE_congr (hM j hj)]
theorem xF_at {ad : Nat → Nat} {f : Nat → Int32} {ks : List (Option Nat)} {k : Nat} (h : ks[k]? = some none) : (xF ad f ks)[k]? = some (.int (f k)) := by
  simp [xF, h]
theorem xF_atR {ad : Nat → Nat} {f : Nat → Int32} {ks : List (Option Nat)} {k j : Nat} (h : ks[k]? = some (some j)) : (xF ad f ks)[k]? = some (.ref (ad j)) := by
  simp [xF, h]
theorem xF_set {ad : Nat → Nat} {f : Nat → Int32} {ks : List (Option Nat)} {k : Nat} {v : Int32} (h : ks[k]? = some none) : (xF ad f ks).set k (.int v) = xF ad (upd f k v) ks := by
  apply List.ext_getElem?
  intro j
  by_cases hj : j = k
  · subst hj
    rw [List.getElem?_set_self ((List.getElem?_eq_some_iff.mp (xF_at (ad := ad) (f := f) h)).1), xF_at h]
    simp [upd]
  · rw [List.getElem?_set_ne (Ne.symm hj)]
    simp only [xF, List.getElem?_mapIdx]
    cases ks[j]? with
    | none => rfl
    | some d =>
      cases d with
      | none => simp [upd, hj]
      | some r => rfl
def xf (M : xM) (o k : Nat) (v : Int32) : xM := (va_up M.1 o (upd (M.1 o) k v), M.2.1, M.2.2)
def xa (M : xM) (a : Nat) (f : Nat → Int32) : xM := (M.1, va_up M.2.1 a f, M.2.2)
def xj (M : xM) (a : Nat) (f : Nat → Int64) : xM := (M.1, M.2.1, va_up M.2.2 a f)
theorem xf_ne {M : xM} {o k : Nat} {v : Int32} : ∀ j, j ≠ o → (xf M o k v).1 j = M.1 j ∧ (xf M o k v).2.1 j = M.2.1 j ∧ (xf M o k v).2.2 j = M.2.2 j := fun j h => ⟨if_neg h, rfl, rfl⟩
theorem xa_ne {M : xM} {a : Nat} {f : Nat → Int32} : ∀ j, j ≠ a → (xa M a f).1 j = M.1 j ∧ (xa M a f).2.1 j = M.2.1 j ∧ (xa M a f).2.2 j = M.2.2 j := fun j h => ⟨rfl, if_neg h, rfl⟩
theorem xj_ne {M : xM} {a : Nat} {f : Nat → Int64} : ∀ j, j ≠ a → (xj M a f).1 j = M.1 j ∧ (xj M a f).2.1 j = M.2.1 j ∧ (xj M a f).2.2 j = M.2.2 j := fun j h => ⟨rfl, rfl, if_neg h⟩
/-! locals: a list of places, known or not -/
def xL (ad : Nat → Nat) (nL : Nat) (lv : List (Option Value)) (ls : Array Slot) : Prop := ls.size = nL ∧ lv_wf ls ∧ ∀ (k : Nat) (v : Value), lv[k]? = some (some v) → ls[k]? = some (.val (xv ad v))
def xas (ad : Nat → Nat) : Nat → List (Option Value) → List (Nat × Value)
  | _, [] => []
  | n, none :: r => xas ad (n + 1) r
  | n, some v :: r => (n, xv ad v) :: xas ad (n + 1) r
theorem xas_of {ad : Nat → Nat} : ∀ (lv : List (Option Value)) (n : Nat) (q : Nat × Value), q ∈ xas ad n lv → ∃ k v, q = (n + k, xv ad v) ∧ lv[k]? = some (some v)
  | [], n, q, h => by simp [xas] at h
  | none :: r, n, q, h => by
    obtain ⟨k, v, h1, h2⟩ := xas_of r (n + 1) q h
    exact ⟨k + 1, v, by rw [h1]; congr 1; omega, h2⟩
  | some v :: r, n, q, h => by
    rcases List.mem_cons.mp h with rfl | h
    · exact ⟨0, v, rfl, rfl⟩
    · obtain ⟨k, v, h1, h2⟩ := xas_of r (n + 1) q h
      exact ⟨k + 1, v, by rw [h1]; congr 1; omega, h2⟩
theorem xas_in {ad : Nat → Nat} : ∀ (lv : List (Option Value)) (n k : Nat) (v : Value), lv[k]? = some (some v) → (n + k, xv ad v) ∈ xas ad n lv
  | [], n, k, v, h => by simp at h
  | none :: r, n, 0, v, h => by simp at h
  | none :: r, n, k + 1, v, h => by
    have h1 := xas_in (ad := ad) r (n + 1) k v h
    rw [show n + (k + 1) = n + 1 + k by omega]
    exact h1
  | some w :: r, n, 0, v, h => by
    cases h
    exact List.mem_cons_self
  | some w :: r, n, k + 1, v, h => by
    have h1 := xas_in (ad := ad) r (n + 1) k v h
    rw [show n + (k + 1) = n + 1 + k by omega]
    exact List.mem_cons_of_mem _ h1
theorem xL_has {ad : Nat → Nat} {nL : Nat} {lv : List (Option Value)} {ls : Array Slot} (h : xL ad nL lv ls) : lv_has ls nL (xas ad 0 lv) := by
  refine ⟨h.1, h.2.1, fun q hq => ?_⟩
  obtain ⟨k, v, h1, h2⟩ := xas_of lv 0 q hq
  rw [h1]
  show ls[0 + k]? = _
  rw [Nat.zero_add]
  exact h.2.2 k v h2
def xcl (w : Option Value) : Option Value := match w with
  | some u => if u.category = 2 then none else some u
  | none => none
theorem xcl_some {w : Option Value} {v : Value} (h : xcl w = some v) : w = some v ∧ ¬ v.category = 2 := by
  cases w with
  | none => cases h
  | some u =>
    simp only [xcl] at h
    split at h
    · cases h
    · cases h
      exact ⟨rfl, by assumption⟩
def xst1 : List (Option Value) → Nat → Value → List (Option Value)
  | [], _, _ => []
  | _ :: r, 0, v => some v :: r
  | w :: r, 1, v => xcl w :: xst1 r 0 v
  | w :: r, i + 2, v => w :: xst1 r (i + 1) v
def xst2 : List (Option Value) → Nat → Value → List (Option Value)
  | [], _, _ => []
  | _ :: r, 0, v => some v :: (match r with
    | [] => []
    | _ :: r' => none :: r')
  | w :: r, 1, v => xcl w :: xst2 r 0 v
  | w :: r, i + 2, v => w :: xst2 r (i + 1) v
theorem xst1_at : ∀ (lv : List (Option Value)) (i : Nat) (v : Value) (j : Nat) (w : Value), (xst1 lv i v)[j]? = some (some w) → (j = i ∧ w = v) ∨ (j ≠ i ∧ lv[j]? = some (some w) ∧ ¬ (j + 1 = i ∧ w.category = 2))
  | [], i, v, j, w, h => by simp [xst1] at h
  | a :: r, 0, v, 0, w, h => by
    simp [xst1] at h
    exact Or.inl ⟨rfl, h.symm⟩
  | a :: r, 0, v, j + 1, w, h => by
    simp [xst1] at h
    exact Or.inr ⟨by omega, h, by omega⟩
  | a :: r, 1, v, 0, w, h => by
    have h1 : xcl a = some w := by simpa [xst1] using h
    obtain ⟨h2, h3⟩ := xcl_some h1
    exact Or.inr ⟨by omega, by rw [h2]; rfl, fun q => h3 q.2⟩
  | a :: r, 1, v, j + 1, w, h => by
    have h1 : (xst1 r 0 v)[j]? = some (some w) := by simpa [xst1] using h
    rcases xst1_at r 0 v j w h1 with ⟨q1, q2⟩ | ⟨q1, q2, q3⟩
    · exact Or.inl ⟨by omega, q2⟩
    · exact Or.inr ⟨by omega, by simpa using q2, by omega⟩
  | a :: r, i + 2, v, 0, w, h => by
    have h1 : a = some w := by simpa [xst1] using h
    exact Or.inr ⟨by omega, by rw [h1]; rfl, by omega⟩
  | a :: r, i + 2, v, j + 1, w, h => by
    have h1 : (xst1 r (i + 1) v)[j]? = some (some w) := by simpa [xst1] using h
    rcases xst1_at r (i + 1) v j w h1 with ⟨q1, q2⟩ | ⟨q1, q2, q3⟩
    · exact Or.inl ⟨by omega, q2⟩
    · exact Or.inr ⟨by omega, by simpa using q2, fun q => q3 ⟨by omega, q.2⟩⟩
theorem xst2_at : ∀ (lv : List (Option Value)) (i : Nat) (v : Value) (j : Nat) (w : Value), (xst2 lv i v)[j]? = some (some w) → (j = i ∧ w = v) ∨ (j ≠ i ∧ j ≠ i + 1 ∧ lv[j]? = some (some w) ∧ ¬ (j + 1 = i ∧ w.category = 2))
  | [], i, v, j, w, h => by simp [xst2] at h
  | a :: r, 0, v, 0, w, h => by
    simp [xst2] at h
    exact Or.inl ⟨rfl, h.symm⟩
  | a :: [], 0, v, j + 1, w, h => by simp [xst2] at h
  | a :: b :: r, 0, v, 1, w, h => by simp [xst2] at h
  | a :: b :: r, 0, v, j + 2, w, h => by
    simp [xst2] at h
    exact Or.inr ⟨by omega, by omega, h, by omega⟩
  | a :: r, 1, v, 0, w, h => by
    have h1 : xcl a = some w := by simpa [xst2] using h
    obtain ⟨h2, h3⟩ := xcl_some h1
    exact Or.inr ⟨by omega, by omega, by rw [h2]; rfl, fun q => h3 q.2⟩
  | a :: r, 1, v, j + 1, w, h => by
    have h1 : (xst2 r 0 v)[j]? = some (some w) := by simpa [xst2] using h
    rcases xst2_at r 0 v j w h1 with ⟨q1, q2⟩ | ⟨q1, q2, q3, q4⟩
    · exact Or.inl ⟨by omega, q2⟩
    · exact Or.inr ⟨by omega, by omega, by simpa using q3, by omega⟩
  | a :: r, i + 2, v, 0, w, h => by
    have h1 : a = some w := by simpa [xst2] using h
    exact Or.inr ⟨by omega, by omega, by rw [h1]; rfl, by omega⟩
  | a :: r, i + 2, v, j + 1, w, h => by
    have h1 : (xst2 r (i + 1) v)[j]? = some (some w) := by simpa [xst2] using h
    rcases xst2_at r (i + 1) v j w h1 with ⟨q1, q2⟩ | ⟨q1, q2, q3, q4⟩
    · exact Or.inl ⟨by omega, q2⟩
    · exact Or.inr ⟨by omega, by omega, by simpa using q3, fun q => q4 ⟨by omega, q.2⟩⟩
theorem xL_st1 {ad : Nat → Nat} {nL i : Nat} {lv : List (Option Value)} {ls' : Array Slot} {v : Value} (h : lv_has ls' nL ((i, xv ad v) :: (xas ad 0 lv).filter (fun q => !(q.1 == i) && !(q.1 + 1 == i && q.2.category == 2)))) : xL ad nL (xst1 lv i v) ls' := by
  refine ⟨h.1, h.2.1, fun k w hk => ?_⟩
  rcases xst1_at lv i v k w hk with ⟨rfl, rfl⟩ | ⟨h1, h2, h3⟩
  · exact h.2.2 _ List.mem_cons_self
  · have hm := xas_in (ad := ad) lv 0 k w h2
    rw [Nat.zero_add] at hm
    refine h.2.2 (k, xv ad w) (List.mem_cons_of_mem _ (List.mem_filter.mpr ⟨hm, ?_⟩))
    simp only [xv_cat]
    have n1 : (k == i) = false := by simpa using h1
    rw [n1]
    by_cases z : k + 1 = i
    · have : ¬ w.category = 2 := fun q => h3 ⟨z, q⟩
      simp [this]
    · simp [z]
theorem xL_st2 {ad : Nat → Nat} {nL i : Nat} {lv : List (Option Value)} {ls' : Array Slot} {v : Value} (h : lv_has ls' nL ((i, xv ad v) :: (xas ad 0 lv).filter (fun q => !(q.1 == i) && (!(q.1 == i + 1) && !(q.1 + 1 == i && q.2.category == 2))))) : xL ad nL (xst2 lv i v) ls' := by
  refine ⟨h.1, h.2.1, fun k w hk => ?_⟩
  rcases xst2_at lv i v k w hk with ⟨rfl, rfl⟩ | ⟨h1, h2, h3, h4⟩
  · exact h.2.2 _ List.mem_cons_self
  · have hm := xas_in (ad := ad) lv 0 k w h3
    rw [Nat.zero_add] at hm
    refine h.2.2 (k, xv ad w) (List.mem_cons_of_mem _ (List.mem_filter.mpr ⟨hm, ?_⟩))
    simp only [xv_cat]
    have n1 : (k == i) = false := by simpa using h1
    have n2 : (k == i + 1) = false := by simpa using h2
    rw [n1, n2]
    by_cases z : k + 1 = i
    · have : ¬ w.category = 2 := fun q => h4 ⟨z, q⟩
      simp [this]
    · simp [z]
def xex : List Value → List (Option Value)
  | [] => []
  | v :: r => if v.category = 2 then some v :: none :: xex r else some v :: xex r
def xen (As : List Value) (n : Nat) : List (Option Value) := xex As ++ List.replicate (n - (xex As).length) none
theorem xex_len (ad : Nat → Nat) : ∀ As : List Value, (xex As).length = (lg_sl (As.map (xv ad))).length
  | [] => rfl
  | v :: r => by
    have ih := xex_len ad r
    simp only [lg_sl] at ih
    by_cases h : v.category = 2
    · simp [xex, lg_sl, h, xv_cat, ih]
    · simp [xex, lg_sl, h, xv_cat, ih]
theorem xex_at (ad : Nat → Nat) : ∀ (As : List Value) (n k : Nat) (v : Value), (xex As)[k]? = some (some v) → (n + k, xv ad v) ∈ lv_args n (As.map (xv ad))
  | [], n, k, v, h => by simp [xex] at h
  | w :: r, n, k, v, h => by
    by_cases hc : w.category = 2
    · rw [xex, if_pos hc] at h
      match k, h with
      | 0, h => cases h; exact List.mem_cons_self
      | 1, h => simp at h
      | k + 2, h =>
        have h1 := xex_at ad r (n + 2) k v (by simpa using h)
        refine List.mem_cons_of_mem _ ?_
        rw [if_pos (by rw [xv_cat]; exact hc)]
        rw [show n + (k + 2) = n + 2 + k by omega]
        exact h1
    · rw [xex, if_neg hc] at h
      match k, h with
      | 0, h => cases h; exact List.mem_cons_self
      | k + 1, h =>
        have h1 := xex_at ad r (n + 1) k v (by simpa using h)
        refine List.mem_cons_of_mem _ ?_
        rw [if_neg (by rw [xv_cat]; exact hc)]
        rw [show n + (k + 1) = n + 1 + k by omega]
        exact h1
theorem xL_entry {ad : Nat → Nat} {As : List Value} {n : Nat} (hn : (xex As).length ≤ n) : xL ad n (xen As n) ((lg_sl (As.map (xv ad)) ++ List.replicate (n - (lg_sl (As.map (xv ad))).length) Slot.unset).toArray) := by
  have h := lv_entry (As.map (xv ad)) (n := n) (by rw [← xex_len]; exact hn)
  refine ⟨h.1, h.2.1, fun k v hk => ?_⟩
  by_cases hl : k < (xex As).length
  · have h1 := xex_at ad As 0 k v (by rw [xen, List.getElem?_append_left hl] at hk; exact hk)
    rw [Nat.zero_add] at h1
    exact h.2.2 _ h1
  · rw [xen, List.getElem?_append_right (by omega)] at hk
    have := List.eq_of_mem_replicate (List.mem_of_getElem? hk)
    cases this
/-! the judgement -/
def xfl : Nat → Int32
  | 0 => 5
  | 1 => 2
  | 2 => 3
  | _ => 0
abbrev xNest : Cond := .fieldLinkNest "RunJudge$State" 63 "RunJudge" "FIRST_LIFE" "[I" "RunJudge"
def xZ (A : Nat → Prop) (U : State) : Prop := va_Nw xNest U ∧ ∃ t : Nat, va_Z "RunJudge" "FIRST_LIFE" "[I" (.ref t) A U U.heap ∧ va_T .int t 8 (fun j => .int (xfl j)) A U U.heap
def xCt (p : Program) (s : State) (m : MethodId) (args : Array Value) (meth : Method) (c : Code) (Y : xY) (D : va_G) (cA : Nat → ClassId) (A : Nat → Prop) : Prop :=
  p.tables.exec = Jvm.exec ∧ c.code = Y.2.1 ∧ c.maxLocals = Y.2.2.1 ∧ meth.sig.returnType = Y.2.2.2.1 ∧ meth.locks = false ∧ s.vm.findClass Y.1.cls = some m.cls ∧ (∀ w ∈ xws Y, w.before args s = true) ∧ va_K D vwCl (xtys cA) s ∧ xZ A s ∧ ∀ q : Nat, s.heap.size ≤ q → A q
def xHp (s : State) (D : va_G) (cA : Nat → ClassId) (ad : Nat → Nat) (A : Nat → Prop) (H : Heap) (locs : List Loc) (ls : Array Slot) (sh : List xSh) (nL : Nat) (lv : List (Option Value)) (M : xM) : Prop :=
  va_P D vwCl (xW cA ad sh M) H ∧ va_D A (xW cA ad sh M) ∧ va_S A s.heap H locs ∧ xL ad nL lv ls
def xQ (D : va_G) (cA : Nat → ClassId) (ad : Nat → Nat) (sh : List xSh) (Q : Option Value → xM → Prop) (A : Nat → Prop) : Array Value → State → Outcome → State → Prop := fun _ st oc t =>
  (∃ (r : Option Value) (M : xM), oc = .returned (r.map (xv ad)) ∧ Q r M ∧ va_P D vwCl (xW cA ad sh M) t.heap ∧ va_K D vwCl (xtys cA) t ∧ va_D A (xW cA ad sh M)) ∧ va_F A st t
def WP (sh : List xSh) (Y : xY) (pc : Nat) (lv : List (Option Value)) (st : List Value) (M : xM) (Q : Option Value → xM → Prop) : Prop :=
  ∀ (l : Launch) (D : va_G) (cA : Nat → ClassId) (ad : Nat → Nat) (p : Program) (e : Env) (s : State) (m : MethodId) (args : Array Value) (below : List Frame) (meth : Method) (c : Code) (H : Heap) (locs : List Loc) (A : Nat → Prop) (ls : Array Slot),
    xCt p s m args meth c Y D cA A → xHp s D cA ad A H locs ls sh Y.2.2.1 lv M →
    W p l e (xrm Y) s m args below meth c H locs 0 0 (MQ below (xQ D cA ad sh Q A) args s 0 0 A) (F0 m pc ls (st.map (xv ad)))
theorem xi_iconst {sh : List xSh} {Y : xY} {pc : Nat} {lv : List (Option Value)} {st : List Value} {M : xM} {Q : Option Value → xM → Prop} {n : Int} {v : Int32} (hd : decode Y.2.1 pc = .ok (.iconst n, 1)) (hv : Int32.ofInt n = v) (k : WP sh Y (pc + 1) lv (.int v :: st) M Q) : WP sh Y pc lv (st) M Q := by
  intro l D cA ad p e s m args below meth c H locs A ls C X
  exact lv_iconst C.1 C.2.1 hd hv (k l D cA ad p e s m args below meth c H locs A ls C X)
theorem xi_bipush {sh : List xSh} {Y : xY} {pc : Nat} {lv : List (Option Value)} {st : List Value} {M : xM} {Q : Option Value → xM → Prop} {n : Int} {v : Int32} (hd : decode Y.2.1 pc = .ok (.bipush n, 2)) (hv : (Int8.ofInt n).toInt32 = v) (k : WP sh Y (pc + 2) lv (.int v :: st) M Q) : WP sh Y pc lv (st) M Q := by
  intro l D cA ad p e s m args below meth c H locs A ls C X
  exact lv_bipush C.1 C.2.1 hd hv (k l D cA ad p e s m args below meth c H locs A ls C X)
theorem xi_sipush {sh : List xSh} {Y : xY} {pc : Nat} {lv : List (Option Value)} {st : List Value} {M : xM} {Q : Option Value → xM → Prop} {n : Int} {v : Int32} (hd : decode Y.2.1 pc = .ok (.sipush n, 3)) (hv : (Int16.ofInt n).toInt32 = v) (k : WP sh Y (pc + 3) lv (.int v :: st) M Q) : WP sh Y pc lv (st) M Q := by
  intro l D cA ad p e s m args below meth c H locs A ls C X
  exact lv_sipush C.1 C.2.1 hd hv (k l D cA ad p e s m args below meth c H locs A ls C X)
theorem xi_ldc {sh : List xSh} {Y : xY} {pc : Nat} {lv : List (Option Value)} {st : List Value} {M : xM} {Q : Option Value → xM → Prop} {i : Nat} {v : Int32} (hd : decode Y.2.1 pc = .ok (.ldc i, 2)) (hc : Cond.constant Y.1.cls i v ∈ xtb) (k : WP sh Y (pc + 2) lv (.int v :: st) M Q) : WP sh Y pc lv (st) M Q := by
  intro l D cA ad p e s m args below meth c H locs A ls C X
  exact lv_ldc C.1 C.2.1 C.2.2.2.2.2.1 (C.2.2.2.2.2.2.1 _ (List.mem_cons_of_mem _ hc)) hd (k l D cA ad p e s m args below meth c H locs A ls C X)
theorem xi_ldcw {sh : List xSh} {Y : xY} {pc : Nat} {lv : List (Option Value)} {st : List Value} {M : xM} {Q : Option Value → xM → Prop} {i : Nat} {v : Int32} (hd : decode Y.2.1 pc = .ok (.ldc_w i, 3)) (hc : Cond.constant Y.1.cls i v ∈ xtb) (k : WP sh Y (pc + 3) lv (.int v :: st) M Q) : WP sh Y pc lv (st) M Q := by
  intro l D cA ad p e s m args below meth c H locs A ls C X
  exact lv_ldcw C.1 C.2.1 C.2.2.2.2.2.1 (C.2.2.2.2.2.2.1 _ (List.mem_cons_of_mem _ hc)) hd (k l D cA ad p e s m args below meth c H locs A ls C X)
theorem xi_ldc2 {sh : List xSh} {Y : xY} {pc : Nat} {lv : List (Option Value)} {st : List Value} {M : xM} {Q : Option Value → xM → Prop} {i : Nat} {v : Int64} (hd : decode Y.2.1 pc = .ok (.ldc2_w i, 3)) (hc : Cond.constantLong Y.1.cls i v ∈ xtb) (k : WP sh Y (pc + 3) lv (.long v :: st) M Q) : WP sh Y pc lv (st) M Q := by
  intro l D cA ad p e s m args below meth c H locs A ls C X
  exact lv_ldc2 C.1 C.2.1 C.2.2.2.2.2.1 (C.2.2.2.2.2.2.1 _ (List.mem_cons_of_mem _ hc)) hd (k l D cA ad p e s m args below meth c H locs A ls C X)
theorem xi_lconst {sh : List xSh} {Y : xY} {pc : Nat} {lv : List (Option Value)} {st : List Value} {M : xM} {Q : Option Value → xM → Prop} {n : Fin 2} {v : Int64} (hd : decode Y.2.1 pc = .ok (.lconst n, 1)) (hv : Int64.ofNat (n : Nat) = v) (k : WP sh Y (pc + 1) lv (.long v :: st) M Q) : WP sh Y pc lv (st) M Q := by
  intro l D cA ad p e s m args below meth c H locs A ls C X
  exact lv_lconst C.1 C.2.1 hd hv (k l D cA ad p e s m args below meth c H locs A ls C X)
theorem xi_iload_n {sh : List xSh} {Y : xY} {pc : Nat} {lv : List (Option Value)} {st : List Value} {M : xM} {Q : Option Value → xM → Prop} {k : Fin 4} {x : Int32} (hd : decode Y.2.1 pc = .ok (.iload_n k, 1)) (hl : lv[(k : Nat)]? = some (some (.int x))) (k : WP sh Y (pc + 1) lv (.int x :: st) M Q) : WP sh Y pc lv (st) M Q := by
  intro l D cA ad p e s m args below meth c H locs A ls C X
  exact lv_iload_n C.1 C.2.1 hd rfl (X.2.2.2.2.2 _ _ hl) (k l D cA ad p e s m args below meth c H locs A ls C X)
theorem xi_iload {sh : List xSh} {Y : xY} {pc : Nat} {lv : List (Option Value)} {st : List Value} {M : xM} {Q : Option Value → xM → Prop} {i : Nat} {x : Int32} (hd : decode Y.2.1 pc = .ok (.iload i, 2)) (hl : lv[i]? = some (some (.int x))) (k : WP sh Y (pc + 2) lv (.int x :: st) M Q) : WP sh Y pc lv (st) M Q := by
  intro l D cA ad p e s m args below meth c H locs A ls C X
  exact lv_iload C.1 C.2.1 hd (X.2.2.2.2.2 _ _ hl) (k l D cA ad p e s m args below meth c H locs A ls C X)
theorem xi_lload_n {sh : List xSh} {Y : xY} {pc : Nat} {lv : List (Option Value)} {st : List Value} {M : xM} {Q : Option Value → xM → Prop} {k : Fin 4} {x : Int64} (hd : decode Y.2.1 pc = .ok (.lload_n k, 1)) (hl : lv[(k : Nat)]? = some (some (.long x))) (k : WP sh Y (pc + 1) lv (.long x :: st) M Q) : WP sh Y pc lv (st) M Q := by
  intro l D cA ad p e s m args below meth c H locs A ls C X
  exact lv_lload_n C.1 C.2.1 hd rfl (X.2.2.2.2.2 _ _ hl) (k l D cA ad p e s m args below meth c H locs A ls C X)
theorem xi_lload {sh : List xSh} {Y : xY} {pc : Nat} {lv : List (Option Value)} {st : List Value} {M : xM} {Q : Option Value → xM → Prop} {i : Nat} {x : Int64} (hd : decode Y.2.1 pc = .ok (.lload i, 2)) (hl : lv[i]? = some (some (.long x))) (k : WP sh Y (pc + 2) lv (.long x :: st) M Q) : WP sh Y pc lv (st) M Q := by
  intro l D cA ad p e s m args below meth c H locs A ls C X
  exact lv_lload C.1 C.2.1 hd (X.2.2.2.2.2 _ _ hl) (k l D cA ad p e s m args below meth c H locs A ls C X)
theorem xi_aload_n {sh : List xSh} {Y : xY} {pc : Nat} {lv : List (Option Value)} {st : List Value} {M : xM} {Q : Option Value → xM → Prop} {k : Fin 4} {x : Nat} (hd : decode Y.2.1 pc = .ok (.aload_n k, 1)) (hl : lv[(k : Nat)]? = some (some (.ref x))) (k : WP sh Y (pc + 1) lv (.ref x :: st) M Q) : WP sh Y pc lv (st) M Q := by
  intro l D cA ad p e s m args below meth c H locs A ls C X
  exact lv_aload_n C.1 C.2.1 hd rfl (X.2.2.2.2.2 _ _ hl) (k l D cA ad p e s m args below meth c H locs A ls C X)
theorem xi_aload {sh : List xSh} {Y : xY} {pc : Nat} {lv : List (Option Value)} {st : List Value} {M : xM} {Q : Option Value → xM → Prop} {i : Nat} {x : Nat} (hd : decode Y.2.1 pc = .ok (.aload i, 2)) (hl : lv[i]? = some (some (.ref x))) (k : WP sh Y (pc + 2) lv (.ref x :: st) M Q) : WP sh Y pc lv (st) M Q := by
  intro l D cA ad p e s m args below meth c H locs A ls C X
  exact lv_aload C.1 C.2.1 hd (X.2.2.2.2.2 _ _ hl) (k l D cA ad p e s m args below meth c H locs A ls C X)
theorem xi_istore_n {sh : List xSh} {Y : xY} {pc : Nat} {lv lv' : List (Option Value)} {st : List Value} {M : xM} {Q : Option Value → xM → Prop} {k : Fin 4} {x : Int32} (hd : decode Y.2.1 pc = .ok (.istore_n k, 1)) (hn : (k : Nat) < Y.2.2.1) (h' : xst1 lv (k : Nat) (.int x) = lv') (k : WP sh Y (pc + 1) lv' st M Q) : WP sh Y pc lv (.int x :: st) M Q := by
  intro l D cA ad p e s m args below meth c H locs A ls C X
  subst h'
  exact lv_istore_n C.1 C.2.1 hd rfl (xL_has X.2.2.2) hn rfl (fun ls' hl' => k l D cA ad p e s m args below meth c H locs A ls' C ⟨X.1, X.2.1, X.2.2.1, xL_st1 hl'⟩)
theorem xi_istore {sh : List xSh} {Y : xY} {pc : Nat} {lv lv' : List (Option Value)} {st : List Value} {M : xM} {Q : Option Value → xM → Prop} {i : Nat} {x : Int32} (hd : decode Y.2.1 pc = .ok (.istore i, 2)) (hn : i < Y.2.2.1) (h' : xst1 lv i (.int x) = lv') (k : WP sh Y (pc + 2) lv' st M Q) : WP sh Y pc lv (.int x :: st) M Q := by
  intro l D cA ad p e s m args below meth c H locs A ls C X
  subst h'
  exact lv_istore C.1 C.2.1 hd (xL_has X.2.2.2) hn rfl (fun ls' hl' => k l D cA ad p e s m args below meth c H locs A ls' C ⟨X.1, X.2.1, X.2.2.1, xL_st1 hl'⟩)
theorem xi_lstore_n {sh : List xSh} {Y : xY} {pc : Nat} {lv lv' : List (Option Value)} {st : List Value} {M : xM} {Q : Option Value → xM → Prop} {k : Fin 4} {x : Int64} (hd : decode Y.2.1 pc = .ok (.lstore_n k, 1)) (hn : (k : Nat) + 1 < Y.2.2.1) (h' : xst2 lv (k : Nat) (.long x) = lv') (k : WP sh Y (pc + 1) lv' st M Q) : WP sh Y pc lv (.long x :: st) M Q := by
  intro l D cA ad p e s m args below meth c H locs A ls C X
  subst h'
  exact lv_lstore_n C.1 C.2.1 hd rfl (xL_has X.2.2.2) hn rfl (fun ls' hl' => k l D cA ad p e s m args below meth c H locs A ls' C ⟨X.1, X.2.1, X.2.2.1, xL_st2 hl'⟩)
theorem xi_lstore {sh : List xSh} {Y : xY} {pc : Nat} {lv lv' : List (Option Value)} {st : List Value} {M : xM} {Q : Option Value → xM → Prop} {i : Nat} {x : Int64} (hd : decode Y.2.1 pc = .ok (.lstore i, 2)) (hn : i + 1 < Y.2.2.1) (h' : xst2 lv i (.long x) = lv') (k : WP sh Y (pc + 2) lv' st M Q) : WP sh Y pc lv (.long x :: st) M Q := by
  intro l D cA ad p e s m args below meth c H locs A ls C X
  subst h'
  exact lv_lstore C.1 C.2.1 hd (xL_has X.2.2.2) hn rfl (fun ls' hl' => k l D cA ad p e s m args below meth c H locs A ls' C ⟨X.1, X.2.1, X.2.2.1, xL_st2 hl'⟩)
theorem xi_astore_n {sh : List xSh} {Y : xY} {pc : Nat} {lv lv' : List (Option Value)} {st : List Value} {M : xM} {Q : Option Value → xM → Prop} {k : Fin 4} {x : Nat} (hd : decode Y.2.1 pc = .ok (.astore_n k, 1)) (hn : (k : Nat) < Y.2.2.1) (h' : xst1 lv (k : Nat) (.ref x) = lv') (k : WP sh Y (pc + 1) lv' st M Q) : WP sh Y pc lv (.ref x :: st) M Q := by
  intro l D cA ad p e s m args below meth c H locs A ls C X
  subst h'
  exact lv_astore_n C.1 C.2.1 hd rfl (xL_has X.2.2.2) hn rfl (fun ls' hl' => k l D cA ad p e s m args below meth c H locs A ls' C ⟨X.1, X.2.1, X.2.2.1, xL_st1 hl'⟩)
theorem xi_astore {sh : List xSh} {Y : xY} {pc : Nat} {lv lv' : List (Option Value)} {st : List Value} {M : xM} {Q : Option Value → xM → Prop} {i : Nat} {x : Nat} (hd : decode Y.2.1 pc = .ok (.astore i, 2)) (hn : i < Y.2.2.1) (h' : xst1 lv i (.ref x) = lv') (k : WP sh Y (pc + 2) lv' st M Q) : WP sh Y pc lv (.ref x :: st) M Q := by
  intro l D cA ad p e s m args below meth c H locs A ls C X
  subst h'
  exact lv_astore C.1 C.2.1 hd (xL_has X.2.2.2) hn rfl (fun ls' hl' => k l D cA ad p e s m args below meth c H locs A ls' C ⟨X.1, X.2.1, X.2.2.1, xL_st1 hl'⟩)
theorem xi_iinc {sh : List xSh} {Y : xY} {pc : Nat} {lv lv' : List (Option Value)} {st : List Value} {M : xM} {Q : Option Value → xM → Prop} {i : Nat} {n : Int} {x v : Int32} (hd : decode Y.2.1 pc = .ok (.iinc i n, 3)) (hl : lv[i]? = some (some (.int x))) (hv : x + Int32.ofInt n = v) (hn : i < Y.2.2.1) (h' : xst1 lv i (.int v) = lv') (k : WP sh Y (pc + 3) lv' st M Q) : WP sh Y pc lv st M Q := by
  intro l D cA ad p e s m args below meth c H locs A ls C X
  subst h'
  have hm := xas_in (ad := ad) lv 0 i (.int x) hl
  rw [Nat.zero_add] at hm
  obtain ⟨j, hj⟩ := List.getElem?_of_mem hm
  exact lv_iinc C.1 C.2.1 hd (xL_has X.2.2.2) hj hv hn rfl (fun ls' hl' => k l D cA ad p e s m args below meth c H locs A ls' C ⟨X.1, X.2.1, X.2.2.1, xL_st1 hl'⟩)
theorem xi_iadd {sh : List xSh} {Y : xY} {pc : Nat} {lv : List (Option Value)} {st : List Value} {M : xM} {Q : Option Value → xM → Prop} {x y : Int32} (hd : decode Y.2.1 pc = .ok (.iadd, 1)) (k : WP sh Y (pc + 1) lv (.int (x + y) :: st) M Q) : WP sh Y pc lv (.int y :: .int x :: st) M Q := by
  intro l D cA ad p e s m args below meth c H locs A ls C X
  exact lv_iadd C.1 C.2.1 hd (k l D cA ad p e s m args below meth c H locs A ls C X)
theorem xi_isub {sh : List xSh} {Y : xY} {pc : Nat} {lv : List (Option Value)} {st : List Value} {M : xM} {Q : Option Value → xM → Prop} {x y : Int32} (hd : decode Y.2.1 pc = .ok (.isub, 1)) (k : WP sh Y (pc + 1) lv (.int (x - y) :: st) M Q) : WP sh Y pc lv (.int y :: .int x :: st) M Q := by
  intro l D cA ad p e s m args below meth c H locs A ls C X
  exact lv_isub C.1 C.2.1 hd (k l D cA ad p e s m args below meth c H locs A ls C X)
theorem xi_imul {sh : List xSh} {Y : xY} {pc : Nat} {lv : List (Option Value)} {st : List Value} {M : xM} {Q : Option Value → xM → Prop} {x y : Int32} (hd : decode Y.2.1 pc = .ok (.imul, 1)) (k : WP sh Y (pc + 1) lv (.int (x * y) :: st) M Q) : WP sh Y pc lv (.int y :: .int x :: st) M Q := by
  intro l D cA ad p e s m args below meth c H locs A ls C X
  exact lv_imul C.1 C.2.1 hd (k l D cA ad p e s m args below meth c H locs A ls C X)
theorem xi_iand {sh : List xSh} {Y : xY} {pc : Nat} {lv : List (Option Value)} {st : List Value} {M : xM} {Q : Option Value → xM → Prop} {x y : Int32} (hd : decode Y.2.1 pc = .ok (.iand, 1)) (k : WP sh Y (pc + 1) lv (.int (x &&& y) :: st) M Q) : WP sh Y pc lv (.int y :: .int x :: st) M Q := by
  intro l D cA ad p e s m args below meth c H locs A ls C X
  exact lv_iand C.1 C.2.1 hd (k l D cA ad p e s m args below meth c H locs A ls C X)
theorem xi_ior {sh : List xSh} {Y : xY} {pc : Nat} {lv : List (Option Value)} {st : List Value} {M : xM} {Q : Option Value → xM → Prop} {x y : Int32} (hd : decode Y.2.1 pc = .ok (.ior, 1)) (k : WP sh Y (pc + 1) lv (.int (x ||| y) :: st) M Q) : WP sh Y pc lv (.int y :: .int x :: st) M Q := by
  intro l D cA ad p e s m args below meth c H locs A ls C X
  exact lv_ior C.1 C.2.1 hd (k l D cA ad p e s m args below meth c H locs A ls C X)
theorem xi_ixor {sh : List xSh} {Y : xY} {pc : Nat} {lv : List (Option Value)} {st : List Value} {M : xM} {Q : Option Value → xM → Prop} {x y : Int32} (hd : decode Y.2.1 pc = .ok (.ixor, 1)) (k : WP sh Y (pc + 1) lv (.int (x ^^^ y) :: st) M Q) : WP sh Y pc lv (.int y :: .int x :: st) M Q := by
  intro l D cA ad p e s m args below meth c H locs A ls C X
  exact lv_ixor C.1 C.2.1 hd (k l D cA ad p e s m args below meth c H locs A ls C X)
theorem xi_ishl {sh : List xSh} {Y : xY} {pc : Nat} {lv : List (Option Value)} {st : List Value} {M : xM} {Q : Option Value → xM → Prop} {x y : Int32} (hd : decode Y.2.1 pc = .ok (.ishl, 1)) (k : WP sh Y (pc + 1) lv (.int (x <<< (y &&& 31)) :: st) M Q) : WP sh Y pc lv (.int y :: .int x :: st) M Q := by
  intro l D cA ad p e s m args below meth c H locs A ls C X
  exact lv_ishl C.1 C.2.1 hd (k l D cA ad p e s m args below meth c H locs A ls C X)
theorem xi_ishr {sh : List xSh} {Y : xY} {pc : Nat} {lv : List (Option Value)} {st : List Value} {M : xM} {Q : Option Value → xM → Prop} {x y : Int32} (hd : decode Y.2.1 pc = .ok (.ishr, 1)) (k : WP sh Y (pc + 1) lv (.int (x >>> (y &&& 31)) :: st) M Q) : WP sh Y pc lv (.int y :: .int x :: st) M Q := by
  intro l D cA ad p e s m args below meth c H locs A ls C X
  exact lv_ishr C.1 C.2.1 hd (k l D cA ad p e s m args below meth c H locs A ls C X)
theorem xi_idiv {sh : List xSh} {Y : xY} {pc : Nat} {lv : List (Option Value)} {st : List Value} {M : xM} {Q : Option Value → xM → Prop} {x y : Int32} (hd : decode Y.2.1 pc = .ok (.idiv, 1)) (hne : ¬ y = 0) (k : WP sh Y (pc + 1) lv (.int (x / y) :: st) M Q) : WP sh Y pc lv (.int y :: .int x :: st) M Q := by
  intro l D cA ad p e s m args below meth c H locs A ls C X
  exact lv_idiv C.1 C.2.1 hd hne (k l D cA ad p e s m args below meth c H locs A ls C X)
theorem xi_irem {sh : List xSh} {Y : xY} {pc : Nat} {lv : List (Option Value)} {st : List Value} {M : xM} {Q : Option Value → xM → Prop} {x y : Int32} (hd : decode Y.2.1 pc = .ok (.irem, 1)) (hne : ¬ y = 0) (k : WP sh Y (pc + 1) lv (.int (x - x / y * y) :: st) M Q) : WP sh Y pc lv (.int y :: .int x :: st) M Q := by
  intro l D cA ad p e s m args below meth c H locs A ls C X
  exact lv_irem C.1 C.2.1 hd hne (k l D cA ad p e s m args below meth c H locs A ls C X)
theorem xi_ineg {sh : List xSh} {Y : xY} {pc : Nat} {lv : List (Option Value)} {st : List Value} {M : xM} {Q : Option Value → xM → Prop} {x : Int32} (hd : decode Y.2.1 pc = .ok (.ineg, 1)) (k : WP sh Y (pc + 1) lv (.int (-x) :: st) M Q) : WP sh Y pc lv (.int x :: st) M Q := by
  intro l D cA ad p e s m args below meth c H locs A ls C X
  exact lv_ineg C.1 C.2.1 hd (k l D cA ad p e s m args below meth c H locs A ls C X)
theorem xi_ladd {sh : List xSh} {Y : xY} {pc : Nat} {lv : List (Option Value)} {st : List Value} {M : xM} {Q : Option Value → xM → Prop} {x y : Int64} (hd : decode Y.2.1 pc = .ok (.ladd, 1)) (k : WP sh Y (pc + 1) lv (.long (x + y) :: st) M Q) : WP sh Y pc lv (.long y :: .long x :: st) M Q := by
  intro l D cA ad p e s m args below meth c H locs A ls C X
  exact lv_ladd C.1 C.2.1 hd (k l D cA ad p e s m args below meth c H locs A ls C X)
theorem xi_lsub {sh : List xSh} {Y : xY} {pc : Nat} {lv : List (Option Value)} {st : List Value} {M : xM} {Q : Option Value → xM → Prop} {x y : Int64} (hd : decode Y.2.1 pc = .ok (.lsub, 1)) (k : WP sh Y (pc + 1) lv (.long (x - y) :: st) M Q) : WP sh Y pc lv (.long y :: .long x :: st) M Q := by
  intro l D cA ad p e s m args below meth c H locs A ls C X
  exact lv_lsub C.1 C.2.1 hd (k l D cA ad p e s m args below meth c H locs A ls C X)
theorem xi_lmul {sh : List xSh} {Y : xY} {pc : Nat} {lv : List (Option Value)} {st : List Value} {M : xM} {Q : Option Value → xM → Prop} {x y : Int64} (hd : decode Y.2.1 pc = .ok (.lmul, 1)) (k : WP sh Y (pc + 1) lv (.long (x * y) :: st) M Q) : WP sh Y pc lv (.long y :: .long x :: st) M Q := by
  intro l D cA ad p e s m args below meth c H locs A ls C X
  exact lv_lmul C.1 C.2.1 hd (k l D cA ad p e s m args below meth c H locs A ls C X)
theorem xi_land {sh : List xSh} {Y : xY} {pc : Nat} {lv : List (Option Value)} {st : List Value} {M : xM} {Q : Option Value → xM → Prop} {x y : Int64} (hd : decode Y.2.1 pc = .ok (.land, 1)) (k : WP sh Y (pc + 1) lv (.long (x &&& y) :: st) M Q) : WP sh Y pc lv (.long y :: .long x :: st) M Q := by
  intro l D cA ad p e s m args below meth c H locs A ls C X
  exact lv_land C.1 C.2.1 hd (k l D cA ad p e s m args below meth c H locs A ls C X)
theorem xi_lor {sh : List xSh} {Y : xY} {pc : Nat} {lv : List (Option Value)} {st : List Value} {M : xM} {Q : Option Value → xM → Prop} {x y : Int64} (hd : decode Y.2.1 pc = .ok (.lor, 1)) (k : WP sh Y (pc + 1) lv (.long (x ||| y) :: st) M Q) : WP sh Y pc lv (.long y :: .long x :: st) M Q := by
  intro l D cA ad p e s m args below meth c H locs A ls C X
  exact lv_lor C.1 C.2.1 hd (k l D cA ad p e s m args below meth c H locs A ls C X)
theorem xi_ldiv {sh : List xSh} {Y : xY} {pc : Nat} {lv : List (Option Value)} {st : List Value} {M : xM} {Q : Option Value → xM → Prop} {x y : Int64} (hd : decode Y.2.1 pc = .ok (.ldiv, 1)) (hne : ¬ y = 0) (k : WP sh Y (pc + 1) lv (.long (x / y) :: st) M Q) : WP sh Y pc lv (.long y :: .long x :: st) M Q := by
  intro l D cA ad p e s m args below meth c H locs A ls C X
  exact lv_ldiv C.1 C.2.1 hd hne (k l D cA ad p e s m args below meth c H locs A ls C X)
theorem xi_lshl {sh : List xSh} {Y : xY} {pc : Nat} {lv : List (Option Value)} {st : List Value} {M : xM} {Q : Option Value → xM → Prop} {x : Int64} {y : Int32} (hd : decode Y.2.1 pc = .ok (.lshl, 1)) (k : WP sh Y (pc + 1) lv (.long (x <<< (y.toInt64 &&& 63)) :: st) M Q) : WP sh Y pc lv (.int y :: .long x :: st) M Q := by
  intro l D cA ad p e s m args below meth c H locs A ls C X
  exact lv_lshl C.1 C.2.1 hd rfl (k l D cA ad p e s m args below meth c H locs A ls C X)
theorem xi_lshr {sh : List xSh} {Y : xY} {pc : Nat} {lv : List (Option Value)} {st : List Value} {M : xM} {Q : Option Value → xM → Prop} {x : Int64} {y : Int32} (hd : decode Y.2.1 pc = .ok (.lshr, 1)) (k : WP sh Y (pc + 1) lv (.long (x >>> (y.toInt64 &&& 63)) :: st) M Q) : WP sh Y pc lv (.int y :: .long x :: st) M Q := by
  intro l D cA ad p e s m args below meth c H locs A ls C X
  exact lv_lshr C.1 C.2.1 hd rfl (k l D cA ad p e s m args below meth c H locs A ls C X)
theorem xi_lushr {sh : List xSh} {Y : xY} {pc : Nat} {lv : List (Option Value)} {st : List Value} {M : xM} {Q : Option Value → xM → Prop} {x : Int64} {y : Int32} (hd : decode Y.2.1 pc = .ok (.lushr, 1)) (k : WP sh Y (pc + 1) lv (.long ((x.toUInt64 >>> (y.toInt64.toUInt64 &&& Int64.toUInt64 63)).toInt64) :: st) M Q) : WP sh Y pc lv (.int y :: .long x :: st) M Q := by
  intro l D cA ad p e s m args below meth c H locs A ls C X
  exact lv_lushr C.1 C.2.1 hd rfl (k l D cA ad p e s m args below meth c H locs A ls C X)
theorem xi_i2l {sh : List xSh} {Y : xY} {pc : Nat} {lv : List (Option Value)} {st : List Value} {M : xM} {Q : Option Value → xM → Prop} {x : Int32} (hd : decode Y.2.1 pc = .ok (.i2l, 1)) (k : WP sh Y (pc + 1) lv (.long x.toInt64 :: st) M Q) : WP sh Y pc lv (.int x :: st) M Q := by
  intro l D cA ad p e s m args below meth c H locs A ls C X
  exact lv_i2l C.1 C.2.1 hd rfl (k l D cA ad p e s m args below meth c H locs A ls C X)
theorem xi_l2i {sh : List xSh} {Y : xY} {pc : Nat} {lv : List (Option Value)} {st : List Value} {M : xM} {Q : Option Value → xM → Prop} {x : Int64} (hd : decode Y.2.1 pc = .ok (.l2i, 1)) (k : WP sh Y (pc + 1) lv (.int x.toInt32 :: st) M Q) : WP sh Y pc lv (.long x :: st) M Q := by
  intro l D cA ad p e s m args below meth c H locs A ls C X
  exact lv_l2i C.1 C.2.1 hd rfl (k l D cA ad p e s m args below meth c H locs A ls C X)
theorem xi_i2b {sh : List xSh} {Y : xY} {pc : Nat} {lv : List (Option Value)} {st : List Value} {M : xM} {Q : Option Value → xM → Prop} {x : Int32} (hd : decode Y.2.1 pc = .ok (.i2b, 1)) (k : WP sh Y (pc + 1) lv (.int x.toInt8.toInt32 :: st) M Q) : WP sh Y pc lv (.int x :: st) M Q := by
  intro l D cA ad p e s m args below meth c H locs A ls C X
  exact lv_i2b C.1 C.2.1 hd rfl (k l D cA ad p e s m args below meth c H locs A ls C X)
theorem xi_i2s {sh : List xSh} {Y : xY} {pc : Nat} {lv : List (Option Value)} {st : List Value} {M : xM} {Q : Option Value → xM → Prop} {x : Int32} (hd : decode Y.2.1 pc = .ok (.i2s, 1)) (k : WP sh Y (pc + 1) lv (.int x.toInt16.toInt32 :: st) M Q) : WP sh Y pc lv (.int x :: st) M Q := by
  intro l D cA ad p e s m args below meth c H locs A ls C X
  exact lv_i2s C.1 C.2.1 hd rfl (k l D cA ad p e s m args below meth c H locs A ls C X)
theorem xi_lcmp {sh : List xSh} {Y : xY} {pc : Nat} {lv : List (Option Value)} {st : List Value} {M : xM} {Q : Option Value → xM → Prop} {x y : Int64} (hd : decode Y.2.1 pc = .ok (.lcmp, 1)) (k : WP sh Y (pc + 1) lv (.int (lg_cmp x y) :: st) M Q) : WP sh Y pc lv (.long y :: .long x :: st) M Q := by
  intro l D cA ad p e s m args below meth c H locs A ls C X
  exact W.lcmp C.1 C.2.1 hd (k l D cA ad p e s m args below meth c H locs A ls C X)
theorem xi_dup {sh : List xSh} {Y : xY} {pc : Nat} {lv : List (Option Value)} {st : List Value} {M : xM} {Q : Option Value → xM → Prop} {v : Value} (hd : decode Y.2.1 pc = .ok (.dup, 1)) (hc : v.category = 1) (k : WP sh Y (pc + 1) lv (v :: v :: st) M Q) : WP sh Y pc lv (v :: st) M Q := by
  intro l D cA ad p e s m args below meth c H locs A ls C X
  exact lv_dup C.1 C.2.1 hd (by rw [xv_cat]; exact hc) (k l D cA ad p e s m args below meth c H locs A ls C X)
theorem xi_dup2 {sh : List xSh} {Y : xY} {pc : Nat} {lv : List (Option Value)} {st : List Value} {M : xM} {Q : Option Value → xM → Prop} {v w : Value} (hd : decode Y.2.1 pc = .ok (.dup2, 1)) (hc : v.category = 1) (hc2 : w.category = 1) (k : WP sh Y (pc + 1) lv (v :: w :: v :: w :: st) M Q) : WP sh Y pc lv (v :: w :: st) M Q := by
  intro l D cA ad p e s m args below meth c H locs A ls C X
  exact lv_dup2_11 C.1 C.2.1 hd (by rw [xv_cat]; exact hc) (by rw [xv_cat]; exact hc2) (k l D cA ad p e s m args below meth c H locs A ls C X)
theorem xi_dup_x1 {sh : List xSh} {Y : xY} {pc : Nat} {lv : List (Option Value)} {st : List Value} {M : xM} {Q : Option Value → xM → Prop} {v w : Value} (hd : decode Y.2.1 pc = .ok (.dup_x1, 1)) (hc : v.category = 1) (hc2 : w.category = 1) (k : WP sh Y (pc + 1) lv (v :: w :: v :: st) M Q) : WP sh Y pc lv (v :: w :: st) M Q := by
  intro l D cA ad p e s m args below meth c H locs A ls C X
  exact lv_dup_x1 C.1 C.2.1 hd (by rw [xv_cat]; exact hc) (by rw [xv_cat]; exact hc2) (k l D cA ad p e s m args below meth c H locs A ls C X)
theorem xi_if_eq {sh : List xSh} {Y : xY} {pc : Nat} {lv : List (Option Value)} {st : List Value} {M : xM} {Q : Option Value → xM → Prop} {x : Int32} {off : Int} (tgt : Nat) (hd : decode Y.2.1 pc = .ok (.ifCond .eq off, 3)) (ht : (pc : Int) + off = (tgt : Int)) (kt : x = 0 → WP sh Y tgt lv st M Q) (kf : ¬ x = 0 → WP sh Y (pc + 3) lv st M Q) : WP sh Y pc lv (.int x :: st) M Q := by
  intro l D cA ad p e s m args below meth c H locs A ls C X
  exact lv_if_eq C.1 C.2.1 hd ht (fun h => kt h l D cA ad p e s m args below meth c H locs A ls C X) (fun h => kf h l D cA ad p e s m args below meth c H locs A ls C X)
theorem xi_icmp_eq {sh : List xSh} {Y : xY} {pc : Nat} {lv : List (Option Value)} {st : List Value} {M : xM} {Q : Option Value → xM → Prop} {x y : Int32} {off : Int} (tgt : Nat) (hd : decode Y.2.1 pc = .ok (.if_icmp .eq off, 3)) (ht : (pc : Int) + off = (tgt : Int)) (kt : x = y → WP sh Y tgt lv st M Q) (kf : ¬ x = y → WP sh Y (pc + 3) lv st M Q) : WP sh Y pc lv (.int y :: .int x :: st) M Q := by
  intro l D cA ad p e s m args below meth c H locs A ls C X
  exact lv_icmp_eq C.1 C.2.1 hd ht (fun h => kt h l D cA ad p e s m args below meth c H locs A ls C X) (fun h => kf h l D cA ad p e s m args below meth c H locs A ls C X)
theorem xi_if_ne {sh : List xSh} {Y : xY} {pc : Nat} {lv : List (Option Value)} {st : List Value} {M : xM} {Q : Option Value → xM → Prop} {x : Int32} {off : Int} (tgt : Nat) (hd : decode Y.2.1 pc = .ok (.ifCond .ne off, 3)) (ht : (pc : Int) + off = (tgt : Int)) (kt : ¬ x = 0 → WP sh Y tgt lv st M Q) (kf : x = 0 → WP sh Y (pc + 3) lv st M Q) : WP sh Y pc lv (.int x :: st) M Q := by
  intro l D cA ad p e s m args below meth c H locs A ls C X
  exact lv_if_ne C.1 C.2.1 hd ht (fun h => kt h l D cA ad p e s m args below meth c H locs A ls C X) (fun h => kf h l D cA ad p e s m args below meth c H locs A ls C X)
theorem xi_icmp_ne {sh : List xSh} {Y : xY} {pc : Nat} {lv : List (Option Value)} {st : List Value} {M : xM} {Q : Option Value → xM → Prop} {x y : Int32} {off : Int} (tgt : Nat) (hd : decode Y.2.1 pc = .ok (.if_icmp .ne off, 3)) (ht : (pc : Int) + off = (tgt : Int)) (kt : ¬ x = y → WP sh Y tgt lv st M Q) (kf : x = y → WP sh Y (pc + 3) lv st M Q) : WP sh Y pc lv (.int y :: .int x :: st) M Q := by
  intro l D cA ad p e s m args below meth c H locs A ls C X
  exact lv_icmp_ne C.1 C.2.1 hd ht (fun h => kt h l D cA ad p e s m args below meth c H locs A ls C X) (fun h => kf h l D cA ad p e s m args below meth c H locs A ls C X)
theorem xi_if_lt {sh : List xSh} {Y : xY} {pc : Nat} {lv : List (Option Value)} {st : List Value} {M : xM} {Q : Option Value → xM → Prop} {x : Int32} {off : Int} (tgt : Nat) (hd : decode Y.2.1 pc = .ok (.ifCond .lt off, 3)) (ht : (pc : Int) + off = (tgt : Int)) (kt : x < 0 → WP sh Y tgt lv st M Q) (kf : ¬ x < 0 → WP sh Y (pc + 3) lv st M Q) : WP sh Y pc lv (.int x :: st) M Q := by
  intro l D cA ad p e s m args below meth c H locs A ls C X
  exact lv_if_lt C.1 C.2.1 hd ht (fun h => kt h l D cA ad p e s m args below meth c H locs A ls C X) (fun h => kf h l D cA ad p e s m args below meth c H locs A ls C X)
theorem xi_icmp_lt {sh : List xSh} {Y : xY} {pc : Nat} {lv : List (Option Value)} {st : List Value} {M : xM} {Q : Option Value → xM → Prop} {x y : Int32} {off : Int} (tgt : Nat) (hd : decode Y.2.1 pc = .ok (.if_icmp .lt off, 3)) (ht : (pc : Int) + off = (tgt : Int)) (kt : x < y → WP sh Y tgt lv st M Q) (kf : ¬ x < y → WP sh Y (pc + 3) lv st M Q) : WP sh Y pc lv (.int y :: .int x :: st) M Q := by
  intro l D cA ad p e s m args below meth c H locs A ls C X
  exact lv_icmp_lt C.1 C.2.1 hd ht (fun h => kt h l D cA ad p e s m args below meth c H locs A ls C X) (fun h => kf h l D cA ad p e s m args below meth c H locs A ls C X)
theorem xi_if_ge {sh : List xSh} {Y : xY} {pc : Nat} {lv : List (Option Value)} {st : List Value} {M : xM} {Q : Option Value → xM → Prop} {x : Int32} {off : Int} (tgt : Nat) (hd : decode Y.2.1 pc = .ok (.ifCond .ge off, 3)) (ht : (pc : Int) + off = (tgt : Int)) (kt : 0 ≤ x → WP sh Y tgt lv st M Q) (kf : ¬ 0 ≤ x → WP sh Y (pc + 3) lv st M Q) : WP sh Y pc lv (.int x :: st) M Q := by
  intro l D cA ad p e s m args below meth c H locs A ls C X
  exact lv_if_ge C.1 C.2.1 hd ht (fun h => kt h l D cA ad p e s m args below meth c H locs A ls C X) (fun h => kf h l D cA ad p e s m args below meth c H locs A ls C X)
theorem xi_icmp_ge {sh : List xSh} {Y : xY} {pc : Nat} {lv : List (Option Value)} {st : List Value} {M : xM} {Q : Option Value → xM → Prop} {x y : Int32} {off : Int} (tgt : Nat) (hd : decode Y.2.1 pc = .ok (.if_icmp .ge off, 3)) (ht : (pc : Int) + off = (tgt : Int)) (kt : y ≤ x → WP sh Y tgt lv st M Q) (kf : ¬ y ≤ x → WP sh Y (pc + 3) lv st M Q) : WP sh Y pc lv (.int y :: .int x :: st) M Q := by
  intro l D cA ad p e s m args below meth c H locs A ls C X
  exact lv_icmp_ge C.1 C.2.1 hd ht (fun h => kt h l D cA ad p e s m args below meth c H locs A ls C X) (fun h => kf h l D cA ad p e s m args below meth c H locs A ls C X)
theorem xi_if_gt {sh : List xSh} {Y : xY} {pc : Nat} {lv : List (Option Value)} {st : List Value} {M : xM} {Q : Option Value → xM → Prop} {x : Int32} {off : Int} (tgt : Nat) (hd : decode Y.2.1 pc = .ok (.ifCond .gt off, 3)) (ht : (pc : Int) + off = (tgt : Int)) (kt : 0 < x → WP sh Y tgt lv st M Q) (kf : ¬ 0 < x → WP sh Y (pc + 3) lv st M Q) : WP sh Y pc lv (.int x :: st) M Q := by
  intro l D cA ad p e s m args below meth c H locs A ls C X
  exact lv_if_gt C.1 C.2.1 hd ht (fun h => kt h l D cA ad p e s m args below meth c H locs A ls C X) (fun h => kf h l D cA ad p e s m args below meth c H locs A ls C X)
theorem xi_icmp_gt {sh : List xSh} {Y : xY} {pc : Nat} {lv : List (Option Value)} {st : List Value} {M : xM} {Q : Option Value → xM → Prop} {x y : Int32} {off : Int} (tgt : Nat) (hd : decode Y.2.1 pc = .ok (.if_icmp .gt off, 3)) (ht : (pc : Int) + off = (tgt : Int)) (kt : y < x → WP sh Y tgt lv st M Q) (kf : ¬ y < x → WP sh Y (pc + 3) lv st M Q) : WP sh Y pc lv (.int y :: .int x :: st) M Q := by
  intro l D cA ad p e s m args below meth c H locs A ls C X
  exact lv_icmp_gt C.1 C.2.1 hd ht (fun h => kt h l D cA ad p e s m args below meth c H locs A ls C X) (fun h => kf h l D cA ad p e s m args below meth c H locs A ls C X)
theorem xi_if_le {sh : List xSh} {Y : xY} {pc : Nat} {lv : List (Option Value)} {st : List Value} {M : xM} {Q : Option Value → xM → Prop} {x : Int32} {off : Int} (tgt : Nat) (hd : decode Y.2.1 pc = .ok (.ifCond .le off, 3)) (ht : (pc : Int) + off = (tgt : Int)) (kt : x ≤ 0 → WP sh Y tgt lv st M Q) (kf : ¬ x ≤ 0 → WP sh Y (pc + 3) lv st M Q) : WP sh Y pc lv (.int x :: st) M Q := by
  intro l D cA ad p e s m args below meth c H locs A ls C X
  exact lv_if_le C.1 C.2.1 hd ht (fun h => kt h l D cA ad p e s m args below meth c H locs A ls C X) (fun h => kf h l D cA ad p e s m args below meth c H locs A ls C X)
theorem xi_icmp_le {sh : List xSh} {Y : xY} {pc : Nat} {lv : List (Option Value)} {st : List Value} {M : xM} {Q : Option Value → xM → Prop} {x y : Int32} {off : Int} (tgt : Nat) (hd : decode Y.2.1 pc = .ok (.if_icmp .le off, 3)) (ht : (pc : Int) + off = (tgt : Int)) (kt : x ≤ y → WP sh Y tgt lv st M Q) (kf : ¬ x ≤ y → WP sh Y (pc + 3) lv st M Q) : WP sh Y pc lv (.int y :: .int x :: st) M Q := by
  intro l D cA ad p e s m args below meth c H locs A ls C X
  exact lv_icmp_le C.1 C.2.1 hd ht (fun h => kt h l D cA ad p e s m args below meth c H locs A ls C X) (fun h => kf h l D cA ad p e s m args below meth c H locs A ls C X)
theorem xi_goto {sh : List xSh} {Y : xY} {pc : Nat} {lv : List (Option Value)} {st : List Value} {M : xM} {Q : Option Value → xM → Prop} {off : Int} (tgt : Nat) (hd : decode Y.2.1 pc = .ok (.goto off, 3)) (ht : (pc : Int) + off = (tgt : Int)) (k : WP sh Y tgt lv st M Q) : WP sh Y pc lv st M Q := by
  intro l D cA ad p e s m args below meth c H locs A ls C X
  exact lv_goto C.1 C.2.1 hd ht (k l D cA ad p e s m args below meth c H locs A ls C X)
theorem xi_tableOut {sh : List xSh} {Y : xY} {pc : Nat} {lv : List (Option Value)} {st : List Value} {M : xM} {Q : Option Value → xM → Prop} {dflt lo hi : Int} {offs : Array Int} {len : Nat} {x : Int32} (tgt : Nat) (hd : decode Y.2.1 pc = .ok (.tableswitch dflt lo hi offs, len)) (ht : (pc : Int) + dflt = (tgt : Int)) (h : x.toInt < lo ∨ hi < x.toInt) (k : WP sh Y tgt lv st M Q) : WP sh Y pc lv (.int x :: st) M Q := by
  intro l D cA ad p e s m args below meth c H locs A ls C X
  exact lv_tableOut C.1 C.2.1 hd h ht (k l D cA ad p e s m args below meth c H locs A ls C X)
theorem xi_tableIn {sh : List xSh} {Y : xY} {pc : Nat} {lv : List (Option Value)} {st : List Value} {M : xM} {Q : Option Value → xM → Prop} {dflt lo hi : Int} {offs : Array Int} {len : Nat} {x : Int32} {off : Int} (tgt : Nat) (j : Nat) (hd : decode Y.2.1 pc = .ok (.tableswitch dflt lo hi offs, len)) (hx : x.toInt = lo + j) (hh : lo + j ≤ hi) (ho : offs[j]? = some off) (ht : (pc : Int) + off = (tgt : Int)) (k : WP sh Y tgt lv st M Q) : WP sh Y pc lv (.int x :: st) M Q := by
  intro l D cA ad p e s m args below meth c H locs A ls C X
  exact lv_tableIn C.1 C.2.1 hd (by omega) (by omega) (by rw [hx, show (lo + (j : Int) - lo).toNat = j by omega]; exact ho) ht (k l D cA ad p e s m args below meth c H locs A ls C X)
def xdr : List Bool → List (Option Value) → List (Option Value)
  | true :: b, v :: r => v :: xdr b r
  | false :: b, _ :: r => none :: xdr b r
  | _, _ => []
theorem xdr_at : ∀ (b : List Bool) (lv : List (Option Value)) (k : Nat) (v : Value), (xdr b lv)[k]? = some (some v) → lv[k]? = some (some v)
  | [], lv, k, v, h => by simp [xdr] at h
  | true :: b, [], k, v, h => by simp [xdr] at h
  | false :: b, [], k, v, h => by simp [xdr] at h
  | true :: b, w :: r, 0, v, h => by simpa [xdr] using h
  | true :: b, w :: r, k + 1, v, h => by
    have := xdr_at b r k v (by simpa [xdr] using h)
    simpa using this
  | false :: b, w :: r, 0, v, h => by simp [xdr] at h
  | false :: b, w :: r, k + 1, v, h => by
    have := xdr_at b r k v (by simpa [xdr] using h)
    simpa using this
/-- fewer locals are known -/
theorem xi_drop {sh : List xSh} {Y : xY} {pc : Nat} {lv lv' : List (Option Value)} {st : List Value} {M : xM} {Q : Option Value → xM → Prop} (b : List Bool) (h : xdr b lv = lv') (k : WP sh Y pc lv' st M Q) : WP sh Y pc lv st M Q := by
  intro l D cA ad p e s m args below meth c H locs A ls C X
  subst h
  exact k l D cA ad p e s m args below meth c H locs A ls C ⟨X.1, X.2.1, X.2.2.1, X.2.2.2.1, X.2.2.2.2.1, fun k v hk => X.2.2.2.2.2 k v (xdr_at b lv k v hk)⟩
theorem xi_mono {sh : List xSh} {Y : xY} {pc : Nat} {lv : List (Option Value)} {st : List Value} {M : xM} {Q Q' : Option Value → xM → Prop} (h : ∀ r M', Q r M' → Q' r M') (k : WP sh Y pc lv st M Q) : WP sh Y pc lv st M Q' := by
  intro l D cA ad p e s m args below meth c H locs A ls C X T hT hX
  obtain ⟨t, h1, o, h2, h3, ⟨⟨r, M', h4, h5, h6⟩, h7⟩, h8⟩ := k l D cA ad p e s m args below meth c H locs A ls C X T hT hX
  exact ⟨t, h1, o, h2, h3, ⟨⟨r, M', h4, h r M' h5, h6⟩, h7⟩, h8⟩
/-! cells: fields and rows -/
def xFd (own : String) (idx ci k : Nat) : Prop := ∃ (C : String) (T : u_T) (N : Nat), vwCl[ci]? = some (C, T, N) ∧ k < N ∧ (T k).1 = C ∧ Cond.fieldLink own idx C (T k).2.1 (T k).2.2.1 ∈ xtb ∧ ∀ w ∈ u_ws C T N, w ∈ xtb
def xFp (own : String) (idx ci k : Nat) : Prop := ∃ (C : String) (T : u_T) (N : Nat) (ty0 : Nat → FieldType), vwCl[ci]? = some (C, T, N) ∧ k < N ∧ (T k).1 = C ∧ Cond.fieldLink own idx C (T k).2.1 (T k).2.2.1 ∈ xtb ∧ (∀ w ∈ u_ws C T N, w ∈ xtb) ∧ (T k).2.2.2 = false ∧ parseFieldDescriptor (T k).2.2.1 = some .int ∧ (∀ k, k < N → parseFieldDescriptor (T k).2.2.1 = some (ty0 k)) ∧ (∀ a, a < N → ∀ b, b < N → a ≠ b → (T a).2.1 ≠ (T b).2.1)
section XR
variable {sh : List xSh} {Y : xY} {pc : Nat} {lv : List (Option Value)} {st : List Value} {M : xM} {Q : Option Value → xM → Prop}
theorem xi_getI {o ci k idx : Nat} {ks : List (Option Nat)} (hd : decode Y.2.1 pc = .ok (.getfield idx, 3)) (hf : xFd Y.1.cls idx ci k) (hs : sh[o]? = some (.inl (ci, ks))) (hk : ks[k]? = some none) (kk : WP sh Y (pc + 3) lv (.int (M.1 o k) :: st) M Q) : WP sh Y pc lv (.ref o :: st) M Q := by
  intro l D cA ad p e s m args below meth c H locs A ls C X
  obtain ⟨C1, T, N, hc, hN, hT, hl, hin⟩ := hf
  exact va_get (v := .int (M.1 o k)) C.1 C.2.1 C.2.2.2.2.2.2.1 (fun w h => List.mem_cons_of_mem _ (hin w h)) C.2.2.2.2.2.1 C.2.2.2.2.2.2.2.1 X.1 o (xW_at hs) hc k hN (C.2.2.2.2.2.2.1 _ (List.mem_cons_of_mem _ hl)) (fun x h => by rw [← hT]; exact h) (xF_at hk) hd (kk l D cA ad p e s m args below meth c H locs A ls C X)
theorem xi_getR {o ci k idx j : Nat} {ks : List (Option Nat)} (hd : decode Y.2.1 pc = .ok (.getfield idx, 3)) (hf : xFd Y.1.cls idx ci k) (hs : sh[o]? = some (.inl (ci, ks))) (hk : ks[k]? = some (some j)) (kk : WP sh Y (pc + 3) lv (.ref j :: st) M Q) : WP sh Y pc lv (.ref o :: st) M Q := by
  intro l D cA ad p e s m args below meth c H locs A ls C X
  obtain ⟨C1, T, N, hc, hN, hT, hl, hin⟩ := hf
  exact va_get (v := .ref (ad j)) C.1 C.2.1 C.2.2.2.2.2.2.1 (fun w h => List.mem_cons_of_mem _ (hin w h)) C.2.2.2.2.2.1 C.2.2.2.2.2.2.2.1 X.1 o (xW_at hs) hc k hN (C.2.2.2.2.2.2.1 _ (List.mem_cons_of_mem _ hl)) (fun x h => by rw [← hT]; exact h) (xF_atR hk) hd (kk l D cA ad p e s m args below meth c H locs A ls C X)
theorem xi_put {o ci k idx : Nat} {ks : List (Option Nat)} {v : Int32} (hd : decode Y.2.1 pc = .ok (.putfield idx, 3)) (hf : xFp Y.1.cls idx ci k) (hs : sh[o]? = some (.inl (ci, ks))) (hk : ks[k]? = some none) (kk : WP sh Y (pc + 3) lv st (xf M o k v) Q) : WP sh Y pc lv (.int v :: .ref o :: st) M Q := by
  intro l D cA ad p e s m args below meth c H locs A ls C X
  obtain ⟨C1, T, N, ty0, hc, hN, hT, hl, hin, hfin, hty, hty0, hnm⟩ := hf
  have hw : ∀ (cA : Nat → ClassId) (ad : Nat → Nat), (xW cA ad sh M).set o (ad o, .inr (ci, (xF ad (M.1 o) ks).set k (.int v))) = xW cA ad sh (xf M o k v) := fun cA ad => xW_set hs (by simp only [xE, xf, va_up, if_pos]; rw [xF_set hk]) xf_ne
  refine va_put (v := .int v) C.1 C.2.1 C.2.2.2.2.2.2.1 (fun w h => List.mem_cons_of_mem _ (hin w h)) ty0 hty0 hnm C.2.2.2.2.2.1 C.2.2.2.2.2.2.2.1 X.1 X.2.1 X.2.2.1 o (xW_at hs) hc k hN (C.2.2.2.2.2.2.1 _ (List.mem_cons_of_mem _ hl)) (fun x h => by rw [← hT]; exact h) hfin hty rfl rfl (List.getElem?_eq_some_iff.mp (xF_at (ad := ad) (f := M.1 o) hk)).1 hd (fun H1 locs1 hP hD hS => ?_)
  rw [hw] at hP hD
  exact kk l D cA ad p e s m args below meth c H1 locs1 A ls C ⟨hP, hD, hS, X.2.2.2⟩
theorem xi_iald {a n : Nat} {g : Nat → Option Nat} {i : Int32} (hd : decode Y.2.1 pc = .ok (.iaload, 1)) (hs : sh[a]? = some (.inr (0, n, g))) (hin : vp_in i n) (kk : WP sh Y (pc + 1) lv (.int (M.2.1 a i.toNatClampNeg) :: st) M Q) : WP sh Y pc lv (.int i :: .ref a :: st) M Q := by
  intro l D cA ad p e s m args below meth c H locs A ls C X
  exact va_iald C.1 C.2.1 C.2.2.2.2.2.2.2.1 X.1 a 0 (xW_at hs) rfl hin hd (kk l D cA ad p e s m args below meth c H locs A ls C X)
theorem xi_bald {a n : Nat} {g : Nat → Option Nat} {i : Int32} (hd : decode Y.2.1 pc = .ok (.baload, 1)) (hs : sh[a]? = some (.inr (1, n, g))) (hin : vp_in i n) (kk : WP sh Y (pc + 1) lv (.int (M.2.1 a i.toNatClampNeg) :: st) M Q) : WP sh Y pc lv (.int i :: .ref a :: st) M Q := by
  intro l D cA ad p e s m args below meth c H locs A ls C X
  exact va_bald C.1 C.2.1 C.2.2.2.2.2.2.2.1 X.1 a 1 (xW_at hs) rfl hin hd (kk l D cA ad p e s m args below meth c H locs A ls C X)
theorem xi_zald {a n : Nat} {g : Nat → Option Nat} {i : Int32} (hd : decode Y.2.1 pc = .ok (.baload, 1)) (hs : sh[a]? = some (.inr (2, n, g))) (hin : vp_in i n) (kk : WP sh Y (pc + 1) lv (.int (M.2.1 a i.toNatClampNeg) :: st) M Q) : WP sh Y pc lv (.int i :: .ref a :: st) M Q := by
  intro l D cA ad p e s m args below meth c H locs A ls C X
  exact va_zald C.1 C.2.1 C.2.2.2.2.2.2.2.1 X.1 a 2 (xW_at hs) rfl hin hd (kk l D cA ad p e s m args below meth c H locs A ls C X)
theorem xi_lald {a n : Nat} {g : Nat → Option Nat} {i : Int32} (hd : decode Y.2.1 pc = .ok (.laload, 1)) (hs : sh[a]? = some (.inr (3, n, g))) (hin : vp_in i n) (kk : WP sh Y (pc + 1) lv (.long (M.2.2 a i.toNatClampNeg) :: st) M Q) : WP sh Y pc lv (.int i :: .ref a :: st) M Q := by
  intro l D cA ad p e s m args below meth c H locs A ls C X
  exact va_lald C.1 C.2.1 C.2.2.2.2.2.2.2.1 X.1 a 3 (xW_at hs) rfl hin hd (kk l D cA ad p e s m args below meth c H locs A ls C X)
theorem xi_aald4 {a n j : Nat} {g : Nat → Option Nat} {i : Int32} (hd : decode Y.2.1 pc = .ok (.aaload, 1)) (hs : sh[a]? = some (.inr (4, n, g))) (hin : vp_in i n) (hg : g i.toNatClampNeg = some j) (kk : WP sh Y (pc + 1) lv (.ref j :: st) M Q) : WP sh Y pc lv (.int i :: .ref a :: st) M Q := by
  intro l D cA ad p e s m args below meth c H locs A ls C X
  refine va_aldq C.1 C.2.1 C.2.2.2.2.2.2.2.1 X.1 a 4 (xW_at hs) rfl hin hd ?_
  dsimp only
  rw [hg]
  exact kk l D cA ad p e s m args below meth c H locs A ls C X
theorem xi_aald5 {a n j : Nat} {g : Nat → Option Nat} {i : Int32} (hd : decode Y.2.1 pc = .ok (.aaload, 1)) (hs : sh[a]? = some (.inr (5, n, g))) (hin : vp_in i n) (hg : g i.toNatClampNeg = some j) (kk : WP sh Y (pc + 1) lv (.ref j :: st) M Q) : WP sh Y pc lv (.int i :: .ref a :: st) M Q := by
  intro l D cA ad p e s m args below meth c H locs A ls C X
  refine va_aldq C.1 C.2.1 C.2.2.2.2.2.2.2.1 X.1 a 5 (xW_at hs) rfl hin hd ?_
  dsimp only
  rw [hg]
  exact kk l D cA ad p e s m args below meth c H locs A ls C X
theorem xi_aald6 {a n j : Nat} {g : Nat → Option Nat} {i : Int32} (hd : decode Y.2.1 pc = .ok (.aaload, 1)) (hs : sh[a]? = some (.inr (6, n, g))) (hin : vp_in i n) (hg : g i.toNatClampNeg = some j) (kk : WP sh Y (pc + 1) lv (.ref j :: st) M Q) : WP sh Y pc lv (.int i :: .ref a :: st) M Q := by
  intro l D cA ad p e s m args below meth c H locs A ls C X
  refine va_aldq C.1 C.2.1 C.2.2.2.2.2.2.2.1 X.1 a 6 (xW_at hs) rfl hin hd ?_
  dsimp only
  rw [hg]
  exact kk l D cA ad p e s m args below meth c H locs A ls C X
theorem xi_alen4 {a n : Nat} {g : Nat → Option Nat} {v : Int32} (hd : decode Y.2.1 pc = .ok (.arraylength, 1)) (hs : sh[a]? = some (.inr (4, n, g))) (hv : Int32.ofNat n = v) (kk : WP sh Y (pc + 1) lv (.int v :: st) M Q) : WP sh Y pc lv (.ref a :: st) M Q := by
  intro l D cA ad p e s m args below meth c H locs A ls C X
  exact va_alen C.1 C.2.1 C.2.2.2.2.2.2.2.1 X.1 a 4 (xW_at hs) rfl hv hd (kk l D cA ad p e s m args below meth c H locs A ls C X)
theorem xi_alen0 {a n : Nat} {g : Nat → Option Nat} {v : Int32} (hd : decode Y.2.1 pc = .ok (.arraylength, 1)) (hs : sh[a]? = some (.inr (0, n, g))) (hv : Int32.ofNat n = v) (kk : WP sh Y (pc + 1) lv (.int v :: st) M Q) : WP sh Y pc lv (.ref a :: st) M Q := by
  intro l D cA ad p e s m args below meth c H locs A ls C X
  exact va_alen C.1 C.2.1 C.2.2.2.2.2.2.2.1 X.1 a 0 (xW_at hs) rfl hv hd (kk l D cA ad p e s m args below meth c H locs A ls C X)
theorem xi_alen1 {a n : Nat} {g : Nat → Option Nat} {v : Int32} (hd : decode Y.2.1 pc = .ok (.arraylength, 1)) (hs : sh[a]? = some (.inr (1, n, g))) (hv : Int32.ofNat n = v) (kk : WP sh Y (pc + 1) lv (.int v :: st) M Q) : WP sh Y pc lv (.ref a :: st) M Q := by
  intro l D cA ad p e s m args below meth c H locs A ls C X
  exact va_alen C.1 C.2.1 C.2.2.2.2.2.2.2.1 X.1 a 1 (xW_at hs) rfl hv hd (kk l D cA ad p e s m args below meth c H locs A ls C X)
theorem xi_alen3 {a n : Nat} {g : Nat → Option Nat} {v : Int32} (hd : decode Y.2.1 pc = .ok (.arraylength, 1)) (hs : sh[a]? = some (.inr (3, n, g))) (hv : Int32.ofNat n = v) (kk : WP sh Y (pc + 1) lv (.int v :: st) M Q) : WP sh Y pc lv (.ref a :: st) M Q := by
  intro l D cA ad p e s m args below meth c H locs A ls C X
  exact va_alen C.1 C.2.1 C.2.2.2.2.2.2.2.1 X.1 a 3 (xW_at hs) rfl hv hd (kk l D cA ad p e s m args below meth c H locs A ls C X)
theorem xa_set0 {a n t : Nat} {g : Nat → Option Nat} {f : Nat → Int32} (hs : sh[a]? = some (.inr (t, n, g))) (ht : t < 3) (cA : Nat → ClassId) (ad : Nat → Nat) : (xW cA ad sh M).set a (ad a, .inl (cA t, n, .inl f)) = xW cA ad sh (xa M a f) := by
  refine xW_set hs ?_ xa_ne
  rcases (show t = 0 ∨ t = 1 ∨ t = 2 by omega) with rfl | rfl | rfl <;> simp [xE, xA, xa, va_up]
theorem xj_set {a n : Nat} {g : Nat → Option Nat} {f : Nat → Int64} (hs : sh[a]? = some (.inr (3, n, g))) (cA : Nat → ClassId) (ad : Nat → Nat) : (xW cA ad sh M).set a (ad a, .inl (cA 3, n, .inr (.inl f))) = xW cA ad sh (xj M a f) := by
  refine xW_set hs ?_ xj_ne
  simp [xE, xA, xj, va_up]
theorem xi_iast {a n : Nat} {g : Nat → Option Nat} {i x : Int32} (hd : decode Y.2.1 pc = .ok (.iastore, 1)) (hs : sh[a]? = some (.inr (0, n, g))) (hin : vp_in i n) (kk : WP sh Y (pc + 1) lv st (xa M a (upd (M.2.1 a) i.toNatClampNeg x)) Q) : WP sh Y pc lv (.int x :: .int i :: .ref a :: st) M Q := by
  intro l D cA ad p e s m args below meth c H locs A ls C X
  refine va_iast C.1 C.2.1 C.2.2.2.2.2.2.2.1 X.1 X.2.1 X.2.2.1 a 0 (xW_at hs) rfl hin hd (fun H1 locs1 hP hD hS => ?_)
  erw [xa_set0 hs (by omega)] at hP hD
  exact kk l D cA ad p e s m args below meth c H1 locs1 A ls C ⟨hP, hD, hS, X.2.2.2⟩
theorem xi_bast {a n : Nat} {g : Nat → Option Nat} {i x : Int32} (hd : decode Y.2.1 pc = .ok (.bastore, 1)) (hs : sh[a]? = some (.inr (1, n, g))) (hin : vp_in i n) (kk : WP sh Y (pc + 1) lv st (xa M a (upd (M.2.1 a) i.toNatClampNeg (vp_nar .byte x))) Q) : WP sh Y pc lv (.int x :: .int i :: .ref a :: st) M Q := by
  intro l D cA ad p e s m args below meth c H locs A ls C X
  refine va_bast C.1 C.2.1 C.2.2.2.2.2.2.2.1 X.1 X.2.1 X.2.2.1 a 1 (xW_at hs) rfl hin hd (fun H1 locs1 hP hD hS => ?_)
  erw [xa_set0 hs (by omega)] at hP hD
  exact kk l D cA ad p e s m args below meth c H1 locs1 A ls C ⟨hP, hD, hS, X.2.2.2⟩
theorem xi_zast {a n : Nat} {g : Nat → Option Nat} {i x : Int32} (hd : decode Y.2.1 pc = .ok (.bastore, 1)) (hs : sh[a]? = some (.inr (2, n, g))) (hin : vp_in i n) (kk : WP sh Y (pc + 1) lv st (xa M a (upd (M.2.1 a) i.toNatClampNeg (vp_nar .boolean x))) Q) : WP sh Y pc lv (.int x :: .int i :: .ref a :: st) M Q := by
  intro l D cA ad p e s m args below meth c H locs A ls C X
  refine va_zast C.1 C.2.1 C.2.2.2.2.2.2.2.1 X.1 X.2.1 X.2.2.1 a 2 (xW_at hs) rfl hin hd (fun H1 locs1 hP hD hS => ?_)
  erw [xa_set0 hs (by omega)] at hP hD
  exact kk l D cA ad p e s m args below meth c H1 locs1 A ls C ⟨hP, hD, hS, X.2.2.2⟩
theorem xi_last {a n : Nat} {g : Nat → Option Nat} {i : Int32} {x : Int64} (hd : decode Y.2.1 pc = .ok (.lastore, 1)) (hs : sh[a]? = some (.inr (3, n, g))) (hin : vp_in i n) (kk : WP sh Y (pc + 1) lv st (xj M a (vp_updL (M.2.2 a) i.toNatClampNeg x)) Q) : WP sh Y pc lv (.long x :: .int i :: .ref a :: st) M Q := by
  intro l D cA ad p e s m args below meth c H locs A ls C X
  refine va_last C.1 C.2.1 C.2.2.2.2.2.2.2.1 X.1 X.2.1 X.2.2.1 a 3 (xW_at hs) rfl hin hd (fun H1 locs1 hP hD hS => ?_)
  erw [xj_set hs] at hP hD
  exact kk l D cA ad p e s m args below meth c H1 locs1 A ls C ⟨hP, hD, hS, X.2.2.2⟩
/-- FIRST_LIFE[x], read in three instructions -/
theorem xi_first {k : Fin 4} {x : Int32} (hd : decode Y.2.1 pc = .ok (.getstatic 63, 3)) (hd2 : decode Y.2.1 (pc + 3) = .ok (.iload_n k, 1)) (hd3 : decode Y.2.1 (pc + 4) = .ok (.iaload, 1)) (hl : lv[(k : Nat)]? = some (some (.int x))) (hY : Y.1.cls = "RunJudge$State") (hin : vp_in x 8) (kk : WP sh Y (pc + 5) lv (.int (xfl x.toNatClampNeg) :: st) M Q) : WP sh Y pc lv st M Q := by
  intro l D cA ad p e s m args below meth c H locs A ls C X
  obtain ⟨hnw, t, hz, ht⟩ := C.2.2.2.2.2.2.2.2.1
  refine va_getsN C.1 C.2.1 hz X.2.2.1 (by rw [← hY]; exact C.2.2.2.2.2.1) (va_Nw.use rfl hnw) (fun _ h => h) hd ?_
  refine lv_iload_n C.1 C.2.1 hd2 rfl (X.2.2.2.2.2 _ _ hl) ?_
  exact va_ti C.1 C.2.1 ht X.2.2.1 hin rfl hd3 (kk l D cA ad p e s m args below meth c H locs A ls C X)
/-! ends -/
theorem xq_ret {D : va_G} {cA : Nat → ClassId} {ad : Nat → Nat} {A : Nat → Prop} {s t : State} {H : Heap} {locs : List Loc} {args : Array Value} {r : Option Value} (hK : va_K D vwCl (xtys cA) s) (hP : va_P D vwCl (xW cA ad sh M) H) (hD : va_D A (xW cA ad sh M)) (hS : va_S A s.heap H locs) (hq : Q r M) (ht : t.heap = H) (hW : s.WarmedH t.vm) : xQ D cA ad sh Q A args s (.returned (r.map (xv ad))) t :=
  ⟨⟨r, M, rfl, hq, by rw [ht]; exact hP, va_K.moved hW.alike hK, hD⟩, hS.F ht⟩
theorem xi_iret {v : Int32} (hd : decode Y.2.1 pc = .ok (.ireturn, 1)) (hr : Y.2.2.2.1 = some .int) (hq : Q (some (.int v)) M) : WP sh Y pc lv [.int v] M Q := by
  intro l D cA ad p e s m args below meth c H locs A ls C X
  exact W.iret (v := v) C.1 C.2.1 (C.2.2.2.1.trans hr) (fun t ht hW => xq_ret (r := some (.int v)) C.2.2.2.2.2.2.2.1 X.1 X.2.1 X.2.2.1 hq ht hW) X.2.2.1.2.2 hd C.2.2.2.2.1
theorem xi_zret {v : Int32} (hd : decode Y.2.1 pc = .ok (.ireturn, 1)) (hr : Y.2.2.2.1 = some .boolean) (hn : v = 0 ∨ v = 1) (hq : Q (some (.int v)) M) : WP sh Y pc lv [.int v] M Q := by
  intro l D cA ad p e s m args below meth c H locs A ls C X
  exact W.zret (v := v) C.1 C.2.1 (C.2.2.2.1.trans hr) (by rcases hn with rfl | rfl <;> rfl) (fun t ht hW => xq_ret (r := some (.int v)) C.2.2.2.2.2.2.2.1 X.1 X.2.1 X.2.2.1 hq ht hW) X.2.2.1.2.2 hd C.2.2.2.2.1
theorem xi_lret {v : Int64} (hd : decode Y.2.1 pc = .ok (.lreturn, 1)) (hr : Y.2.2.2.1 = some .long) (hq : Q (some (.long v)) M) : WP sh Y pc lv [.long v] M Q := by
  intro l D cA ad p e s m args below meth c H locs A ls C X
  exact W.lret (v := v) C.1 C.2.1 (C.2.2.2.1.trans hr) (fun t ht hW => xq_ret (r := some (.long v)) C.2.2.2.2.2.2.2.1 X.1 X.2.1 X.2.2.1 hq ht hW) X.2.2.1.2.2 hd C.2.2.2.2.1
theorem xi_vret (hd : decode Y.2.1 pc = .ok (.return_, 1)) (hr : Y.2.2.2.1 = none) (hq : Q none M) : WP sh Y pc lv [] M Q := by
  intro l D cA ad p e s m args below meth c H locs A ls C X
  exact W.vret C.1 C.2.1 (C.2.2.2.1.trans hr) (fun t ht hW => xq_ret (r := none) C.2.2.2.2.2.2.2.1 X.1 X.2.1 X.2.2.1 hq ht hW) X.2.2.1.2.2 hd C.2.2.2.2.1
theorem xi_aret {v : Nat} {n : String} (hd : decode Y.2.1 pc = .ok (.areturn, 1)) (hr : Y.2.2.2.1 = some (.object n)) (hq : Q (some (.ref v)) M) : WP sh Y pc lv [.ref v] M Q := by
  intro l D cA ad p e s m args below meth c H locs A ls C X
  exact W.aret (v := .ref (ad v)) C.1 C.2.1 (C.2.2.2.1.trans hr) (Or.inl ⟨n, rfl⟩) (Or.inr ⟨_, rfl⟩) (fun t ht hW => xq_ret (r := some (.ref v)) C.2.2.2.2.2.2.2.1 X.1 X.2.1 X.2.2.1 hq ht hW) X.2.2.1.2.2 hd C.2.2.2.2.1
/-- System.arraycopy between rows of ints, of longs -/
theorem xi_copyi {idx a0 n0 a1 n1 : Nat} {g0 g1 : Nat → Option Nat} {sp dp n : Int32} (hd : decode Y.2.1 pc = .ok (.invokestatic idx, 3)) (hl : Cond.methodLink Y.1.cls idx arraycopyName ∈ xtb) (hN : Cond.native arraycopyName ∈ xtb ∧ Cond.static arraycopyName ∈ xtb ∧ Cond.initialized "java/lang/System" ∈ xtb) (hs0 : sh[a0]? = some (.inr (0, n0, g0))) (hs1 : sh[a1]? = some (.inr (0, n1, g1)))
    (h1 : ¬ sp < 0) (h2 : ¬ dp < 0) (h3 : ¬ n < 0) (h4 : sp.toNatClampNeg + n.toNatClampNeg ≤ n0) (h5 : dp.toNatClampNeg + n.toNatClampNeg ≤ n1) (hf : 1 ≤ Y.2.2.2.2.1) (hlo : (st.map fun v => v.category).sum + 18 ≤ Y.2.2.2.2.2)
    (kk : WP sh Y (pc + 3) lv st (xa M a1 (va_cpy (M.2.1 a0) (M.2.1 a1) sp.toNatClampNeg dp.toNatClampNeg n.toNatClampNeg)) Q) : WP sh Y pc lv (.int n :: .int dp :: .ref a1 :: .int sp :: .ref a0 :: st) M Q := by
  intro l D cA ad p e s m args below meth c H locs A ls C X
  have ht : ∀ w ∈ xtb, w.before args s = true := fun w h => C.2.2.2.2.2.2.1 w (List.mem_cons_of_mem _ h)
  have hcatm : ((st.map (xv ad)).map fun v => v.category) = st.map fun v => v.category := by
    rw [List.map_map]; exact List.map_congr_left (fun v _ => xv_cat ad v)
  refine va_copyi (ty := .int) C.1 C.2.1 (C.2.2.1.trans X.2.2.2.1.symm) C.2.2.2.2.2.1 (ht _ hl) (ht _ hN.1) (ht _ hN.2.1) (ht _ hN.2.2) C.2.2.2.2.2.2.2.1 X.1 X.2.1 X.2.2.1 a0 a1 0 0 (xW_at hs0) (xW_at hs1) rfl rfl rfl h1 h2 h3 h4 h5 (fun _ _ => rfl) hf (by rw [hcatm]; exact hlo) hd (fun H1 locs1 hP hD hS => ?_)
  erw [xa_set0 hs1 (by omega)] at hP hD
  exact kk l D cA ad p e s m args below meth c H1 locs1 A ls C ⟨hP, hD, hS, X.2.2.2⟩
theorem xi_copyl {idx a0 n0 a1 n1 : Nat} {g0 g1 : Nat → Option Nat} {sp dp n : Int32} (hd : decode Y.2.1 pc = .ok (.invokestatic idx, 3)) (hl : Cond.methodLink Y.1.cls idx arraycopyName ∈ xtb) (hN : Cond.native arraycopyName ∈ xtb ∧ Cond.static arraycopyName ∈ xtb ∧ Cond.initialized "java/lang/System" ∈ xtb) (hs0 : sh[a0]? = some (.inr (3, n0, g0))) (hs1 : sh[a1]? = some (.inr (3, n1, g1)))
    (h1 : ¬ sp < 0) (h2 : ¬ dp < 0) (h3 : ¬ n < 0) (h4 : sp.toNatClampNeg + n.toNatClampNeg ≤ n0) (h5 : dp.toNatClampNeg + n.toNatClampNeg ≤ n1) (hf : 1 ≤ Y.2.2.2.2.1) (hlo : (st.map fun v => v.category).sum + 18 ≤ Y.2.2.2.2.2)
    (kk : WP sh Y (pc + 3) lv st (xj M a1 (va_cpy (M.2.2 a0) (M.2.2 a1) sp.toNatClampNeg dp.toNatClampNeg n.toNatClampNeg)) Q) : WP sh Y pc lv (.int n :: .int dp :: .ref a1 :: .int sp :: .ref a0 :: st) M Q := by
  intro l D cA ad p e s m args below meth c H locs A ls C X
  have ht : ∀ w ∈ xtb, w.before args s = true := fun w h => C.2.2.2.2.2.2.1 w (List.mem_cons_of_mem _ h)
  have hcatm : ((st.map (xv ad)).map fun v => v.category) = st.map fun v => v.category := by
    rw [List.map_map]; exact List.map_congr_left (fun v _ => xv_cat ad v)
  refine va_copyl (ty := .long) C.1 C.2.1 (C.2.2.1.trans X.2.2.2.1.symm) C.2.2.2.2.2.1 (ht _ hl) (ht _ hN.1) (ht _ hN.2.1) (ht _ hN.2.2) C.2.2.2.2.2.2.2.1 X.1 X.2.1 X.2.2.1 a0 a1 3 3 (xW_at hs0) (xW_at hs1) rfl rfl rfl h1 h2 h3 h4 h5 (fun _ _ => rfl) hf (by rw [hcatm]; exact hlo) hd (fun H1 locs1 hP hD hS => ?_)
  erw [xj_set hs1] at hP hD
  exact kk l D cA ad p e s m args below meth c H1 locs1 A ls C ⟨hP, hD, hS, X.2.2.2⟩
end XR
/-! calls: the whole memory goes along -/
theorem xZ_to {A B : Nat → Prop} {s U : State} {locs : List Loc} (h : xZ A s) (hW : s.WarmedH U.vm) (hS : va_S A s.heap U.heap locs) (hB : ∀ q, B q → A q) : xZ B U := by
  obtain ⟨h0, t, h1, h2⟩ := h
  exact ⟨va_Nw.warmF hW h0, t, ((h1.kept hS.2.1).narrow hB).moved hW.alike, ((h2.kept hS.2.1).narrow hB).moved hW.alike⟩
/-! a method of java/lang/Math on whole numbers is run by its own bytecode: the table of natives has rows for floats alone -/
def xfloats : List String := ["(D)D", "(DD)D", "(DDD)D", "(F)F", "(FF)F", "(FFF)F"]
theorem xmathRows : (Jvm.natives.all fun r => r.cls != "java/lang/Math" || xfloats.contains r.desc) = true := by decide +kernel
theorem xmath {x : MethodName} (hc : x.cls = "java/lang/Math") (hd : xfloats.contains x.desc = false) : plainFor x = true := by
  unfold plainFor
  rw [Bool.or_eq_true]; right
  rw [Option.isNone_iff_eq_none, NativeRow.find?, List.find?_eq_none]
  intro r hr h
  have := List.all_eq_true.mp xmathRows r hr
  simp only [Bool.and_eq_true, beq_iff_eq] at h
  rw [h.1.2, h.2, hc, hd] at this
  simp at this
theorem xOfW {l : Launch} {y : MethodName} {ws ws' : List Cond} {rm : Room} {Pc : Array Value → State → Prop} {Qc : Array Value → State → Outcome → State → Prop} {mc ms : Nat} {free : Addr → Prop} {cc : ByteArray} {maxL : Nat} {ret : Option FieldType}
    (hy : plainFor y = true) (hw : ws = Cond.code y cc maxL ret :: ws')
    (body : ∀ p e s m args below meth c s₁, BodyLoose p l y (headSpec ws rm) cc maxL ret e s m args below meth c s₁ → c.maxLocals = maxL → Pc args s →
      W p l e (headSpec ws rm).room s m args below meth c s.heap [] 0 0 (MQ below Qc args s mc ms free) (entryFrame m args maxL)) : Met l y ws rm Pc Qc mc ms free := by
  refine MetFree.of_bodySF (code := cc) (maxLocals := maxL) (ret := ret) hy ?_ ?_
  · intro args s m h hn
    obtain ⟨meth, c, h1, h2, h3, h4, h5, h6, -, -⟩ := Cond.code_spec hn (atoms_spec (ws := ws) h _ (by rw [hw]; exact List.mem_cons_self))
    exact ⟨meth, c, h1, h2, h3, h4, h5, h6⟩
  · intro p e s m args below meth c s₁ B hml hP _
    have hh0 : s₁.heap = s.heap := by rw [B.state]; rfl
    obtain ⟨t, a1, o, b1, b2, b3⟩ := body p e s m args below meth c s₁ B hml hP s₁ hh0 (Stand.of_body B)
    exact ⟨t, o, a1, b1, b2, ⟨b3.1, b3.2⟩⟩
theorem xMet {sh : List xSh} {Z : xY} {As : List Value} {lv0 : List (Option Value)} {M : xM} {Q : Option Value → xM → Prop} (hp : plainFor Z.1 = true) (hen : xen As Z.2.2.1 = lv0) (hsz : (xex As).length ≤ Z.2.2.1) (h : WP sh Z 0 lv0 [] M Q) (l : Launch) (D : va_G) (cA : Nat → ClassId) (ad : Nat → Nat) (sz : Nat) :
    Met l Z.1 (xws Z) (xrm Z) (va_Pc (As.map (xv ad)) (fun U => U.heap.size = sz ∧ va_P D vwCl (xW cA ad sh M) U.heap ∧ va_K D vwCl (xtys cA) U ∧ va_D (fun _ => True) (xW cA ad sh M) ∧ xZ (va_A (xW cA ad sh M) sz) U)) (xQ D cA ad sh Q (va_A (xW cA ad sh M) sz)) 0 0 (va_A (xW cA ad sh M) sz) := by
  refine xOfW (cc := Z.2.1) (maxL := Z.2.2.1) (ret := Z.2.2.2.1) hp rfl ?_
  intro p e s m args below meth c s₁ B hml hv
  obtain ⟨rfl, hsz', hP, hK, hD0, hZ⟩ := hv
  subst hsz'
  have hts := atoms_spec (ws := xws Z) B.pre
  have hown := findClass_of_methodNamed B.named
  have hl := xL_entry (ad := ad) (As := As) hsz
  rw [lg_entry_eq]
  rw [hen] at hl
  exact h l D cA ad p e s m _ below meth c s.heap [] (va_A (xW cA ad sh M) s.heap.size) _ ⟨B.exec, B.bytes, hml, B.returns, B.notSynchronized, hown, hts, hK, hZ, fun q h => Or.inr h⟩ ⟨hP, hD0.self, va_S.rf, hl⟩
theorem xblind {sh : List xSh} {D : va_G} {cA : Nat → ClassId} {ad : Nat → Nat} {M : xM} {sz : Nat} {av : List Value} : FrameBlind (va_Pc av (fun U => U.heap.size = sz ∧ va_P D vwCl (xW cA ad sh M) U.heap ∧ va_K D vwCl (xtys cA) U ∧ va_D (fun _ => True) (xW cA ad sh M) ∧ xZ (va_A (xW cA ad sh M) sz) U)) := by
  intro a U g mk q
  obtain ⟨q0, q1, qP, qK, qD, z0, t, z1, z2⟩ := q
  exact ⟨q0, q1, qP, va_K.moved (u := U) (U := U.calling g mk a) (Vm.Alike.refl U.vm) qK, qD, va_Nw.same (u := U) (U := U.calling g mk a) rfl rfl z0, t, va_Z.moved (u := U) (U := U.calling g mk a) (Vm.Alike.refl U.vm) z1, va_T.moved (u := U) (U := U.calling g mk a) (Vm.Alike.refl U.vm) z2⟩
theorem xgo {p : Program} {l : Launch} {e : Env} {R : Room} {s : State} {m : MethodId} {args : Array Value} {below : List Frame} {meth : Method} {c : Code} {H : Heap} {locs : List Loc} {Qf : State → Prop} {pc : Nat} {ls : Array Slot} {rest st0 : List Value} {a : Array Value} {A A1 : Nat → Prop} {D : va_G} {cA : Nat → ClassId} {ad : Nat → Nat} {sh : List xSh} {Q1 : Option Value → xM → Prop}
    (hr : va_Run p l e R s m args below meth c H locs 0 0 0 0 (F0 m pc ls st0) rest (xQ D cA ad sh Q1 A1 a) A1) (hS : va_S A s.heap H locs) (hA : ∀ q, A1 q → A q)
    (kk : ∀ (r : Option Value) (M : xM) (H1 : Heap) (locs1 : List Loc), Q1 r M → va_P D vwCl (xW cA ad sh M) H1 → va_D A (xW cA ad sh M) → va_S A s.heap H1 locs1 → W p l e R s m args below meth c H1 locs1 0 0 Qf (F0 m (pc + 3) ls ((r.map (xv ad)).toList ++ rest))) : W p l e R s m args below meth c H locs 0 0 Qf (F0 m pc ls st0) := by
  intro T hT X
  obtain ⟨v, st₀, t, T', L, h0, X', hL, e1, e2, ⟨⟨r, M, hv, hp, hP, hK, hD⟩, hz, hk⟩, st⟩ := hr T hT X
  cases hv
  rw [h0] at hz hk
  obtain ⟨t2, a1, b1⟩ := kk r M T'.heap (locs ++ L) hp (by rw [e1]; exact hP) (hD.weaken (fun _ q _ h => hA q.1 h))
    ⟨Nat.le_trans hS.1 (by rw [e1]; exact hz), fun q h1 h2 => by rw [e1, hk q (Nat.lt_of_lt_of_le h1 hS.1) (fun z => h2 (hA q z))]; exact hS.2.1 q h1 h2, fun q hq => by
      rcases List.mem_append.mp hq with h | h
      · exact hS.2.2 q h
      · exact hA _ (hL q h)⟩ T' rfl X'
  exact ⟨t2, st t2 a1, b1⟩
def xZs (Z : xY) (n : Nat) : Prop := plainFor Z.1 = true ∧ (Z.1.cls ≠ "java/lang/invoke/MethodHandle" ∧ Z.1.cls ≠ "java/lang/invoke/VarHandle" ∧ (parseMethodDescriptor Z.1.desc).map (fun d => d.parameters.length) = some n) ∧ Cond.code Z.1 Z.2.1 Z.2.2.1 Z.2.2.2.1 ∈ xtb ∧ Cond.initialized Z.1.cls ∈ xtb ∧ Cond.static Z.1 ∈ xtb
def xZv (Z : xY) (n : Nat) : Prop := plainFor Z.1 = true ∧ (Z.1.cls ≠ "java/lang/invoke/MethodHandle" ∧ Z.1.cls ≠ "java/lang/invoke/VarHandle" ∧ (parseMethodDescriptor Z.1.desc).map (fun d => d.parameters.length) = some n) ∧ Cond.code Z.1 Z.2.1 Z.2.2.1 Z.2.2.2.1 ∈ xtb ∧ Cond.initialized Z.1.cls ∈ xtb ∧ Cond.instanceMethod Z.1 ∈ xtb ∧ Cond.selects Z.1.cls Z.1 Z.1 ∈ xtb
theorem xfree {cA : Nat → ClassId} {ad : Nat → Nat} {sh : List xSh} {M : xM} {A : Nat → Prop} {s : State} {H : Heap} {locs : List Loc} (hD : va_D A (xW cA ad sh M)) (hS : va_S A s.heap H locs) (hA : ∀ q : Nat, s.heap.size ≤ q → A q) : ∀ q, va_A (xW cA ad sh M) H.size q → A q := by
  intro q h
  rcases h with ⟨k, e, h⟩ | h
  · exact hD.2 k (q, e) h
  · exact hA q (Nat.le_trans hS.1 h)
theorem xi_callV {sh : List xSh} {Y : xY} {pc : Nat} {lv : List (Option Value)} {M : xM} {Q : Option Value → xM → Prop} {Z : xY} {n idx ci o : Nat} {ks : List (Option Nat)} {w : vw_C} {st0 : List Value} {lv0 : List (Option Value)} (As st : List Value)
    (hd : decode Y.2.1 pc = .ok (.invokevirtual idx, 3)) (hZ : xZv Z n) (hl : Cond.methodLink Y.1.cls idx Z.1 ∈ xtb) (hs : sh[o]? = some (.inl (ci, ks))) (hc : vwCl[ci]? = some w) (hw : w.1 = Z.1.cls) (hn : As.length = n) (hst : st0 = As.reverse ++ .ref o :: st) (hen : xen (.ref o :: As) Z.2.2.1 = lv0) (hsz : (xex (.ref o :: As)).length ≤ Z.2.2.1) (hcat : (st.map fun v => v.category).sum ≤ 8)
    (hR : Z.2.2.2.2.1 + 1 ≤ Y.2.2.2.2.1 ∧ 8 + (Z.2.2.1 + 11) + Z.2.2.2.2.2 ≤ Y.2.2.2.2.2)
    (k : WP sh Z 0 lv0 [] M (fun r M' => WP sh Y (pc + 3) lv (r.toList ++ st) M' Q)) : WP sh Y pc lv st0 M Q := by
  intro l D cA ad p e s m args below meth c H locs A ls C X
  obtain ⟨hx, hb, hml, hr, hlk, hown, hts, hK, hZ0, hA⟩ := id C
  obtain ⟨hP, hD, hS, hL⟩ := id X
  have hF := xfree hD hS hA
  have hM := xMet hZ.1 hen hsz k l D cA ad H.size
  have hcatm : ((st.map (xv ad)).map fun v => v.category) = st.map fun v => v.category := by
    rw [List.map_map]; exact List.map_congr_left (fun v _ => xv_cat ad v)
  have ht : ∀ w ∈ xtb, w.before args s = true := fun w h => hts w (List.mem_cons_of_mem _ h)
  have hrv := va_recv hK hP hc (xW_at (cA := cA) (ad := ad) (M := M) hs)
  rw [hw] at hrv
  refine xgo (va_runV (C := Z.1.cls) (b := ad o) (n := n) (index := idx) (As := As.map (xv ad)) (rest := st.map (xv ad)) ⟨hx, hb, hml, hown, hts⟩ hM ⟨callB_of (bytes := Z.2.1) (maxL := Z.2.2.1) (ret := Z.2.2.2.1) n hts (xgood hZ.2.2.1) rfl rfl rfl (ht _ hZ.2.2.2.1) (ht _ hl) hZ.2.1 hR, ht _ hZ.2.2.2.2.1, ht _ hZ.2.2.2.2.2⟩
    ⟨xblind, hrv, fun U hU hW => ⟨rfl, by rw [hU], by rw [hU]; exact hP, va_K.moved hW.alike hK, hD.weaken (fun _ _ _ _ => trivial), xZ_to (locs := locs) hZ0 hW (by rw [hU]; exact hS) hF⟩⟩ rfl (by rw [List.length_map]; exact hn) hL.1 (by rw [hst]; simp [xv]) (lv_room (by rw [hcatm]; exact hcat)) hd ⟨Nat.le_refl 0, Nat.le_refl 0⟩) hS hF (fun r M' H1 locs1 hq hP1 hD1 hS1 => ?_)
  have h9 := hq l D cA ad p e s m args below meth c H1 locs1 A ls C ⟨hP1, hD1, hS1, hL⟩
  rw [show (r.map (xv ad)).toList ++ st.map (xv ad) = (r.toList ++ st).map (xv ad) by cases r <;> simp]
  exact h9
theorem xi_callS {sh : List xSh} {Y : xY} {pc : Nat} {lv : List (Option Value)} {M : xM} {Q : Option Value → xM → Prop} {Z : xY} {n idx : Nat} {st0 : List Value} {lv0 : List (Option Value)} (As st : List Value)
    (hd : decode Y.2.1 pc = .ok (.invokestatic idx, 3)) (hZ : xZs Z n) (hl : Cond.methodLink Y.1.cls idx Z.1 ∈ xtb) (hn : As.length = n) (hst : st0 = As.reverse ++ st) (hen : xen As Z.2.2.1 = lv0) (hsz : (xex As).length ≤ Z.2.2.1) (hcat : (st.map fun v => v.category).sum ≤ 8)
    (hR : Z.2.2.2.2.1 + 1 ≤ Y.2.2.2.2.1 ∧ 8 + (Z.2.2.1 + 11) + Z.2.2.2.2.2 ≤ Y.2.2.2.2.2)
    (k : WP sh Z 0 lv0 [] M (fun r M' => WP sh Y (pc + 3) lv (r.toList ++ st) M' Q)) : WP sh Y pc lv st0 M Q := by
  intro l D cA ad p e s m args below meth c H locs A ls C X
  obtain ⟨hx, hb, hml, hr, hlk, hown, hts, hK, hZ0, hA⟩ := id C
  obtain ⟨hP, hD, hS, hL⟩ := id X
  have hF := xfree hD hS hA
  have hM := xMet hZ.1 hen hsz k l D cA ad H.size
  have hcatm : ((st.map (xv ad)).map fun v => v.category) = st.map fun v => v.category := by
    rw [List.map_map]; exact List.map_congr_left (fun v _ => xv_cat ad v)
  have ht : ∀ w ∈ xtb, w.before args s = true := fun w h => hts w (List.mem_cons_of_mem _ h)
  refine xgo (va_runS (n := n) (index := idx) (As := As.map (xv ad)) (rest := st.map (xv ad)) ⟨hx, hb, hml, hown, hts⟩ hM ⟨callB_of (bytes := Z.2.1) (maxL := Z.2.2.1) (ret := Z.2.2.2.1) n hts (xgood hZ.2.2.1) rfl rfl rfl (ht _ hZ.2.2.2.1) (ht _ hl) hZ.2.1 hR, ht _ hZ.2.2.2.2⟩
    ⟨xblind, fun U hU hW => ⟨rfl, by rw [hU], by rw [hU]; exact hP, va_K.moved hW.alike hK, hD.weaken (fun _ _ _ _ => trivial), xZ_to (locs := locs) hZ0 hW (by rw [hU]; exact hS) hF⟩⟩ rfl (by rw [List.length_map]; exact hn) hL.1 (by rw [hst]; simp) (lv_room (by rw [hcatm]; exact hcat)) hd ⟨Nat.le_refl 0, Nat.le_refl 0⟩) hS hF (fun r M' H1 locs1 hq hP1 hD1 hS1 => ?_)
  have h9 := hq l D cA ad p e s m args below meth c H1 locs1 A ls C ⟨hP1, hD1, hS1, hL⟩
  rw [show (r.map (xv ad)).toList ++ st.map (xv ad) = (r.toList ++ st).map (xv ad) by cases r <;> simp]
  exact h9
