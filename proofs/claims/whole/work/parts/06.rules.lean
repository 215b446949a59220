/-- a truth value as an int; a place or none -/
def xb (b : Bool) : Int32 := if b = true then 1 else 0
def xo (o : Option Nat) : Int32 := match o with
  | none => -1
  | some k => nI k
theorem xb_01 (b : Bool) : xb b = 0 ∨ xb b = 1 := by cases b <;> simp [xb]
theorem xb_t {b : Bool} (h : b = true) : xb b = 1 := by rw [h]; rfl
theorem xb_f {b : Bool} (h : b = false) : xb b = 0 := by rw [h]; rfl
theorem nI_toInt' {n : Nat} (h : n < 2 ^ 31) : (nI n).toInt = (n : Int) := nI_toInt h
theorem xcmp_eq {a b : Nat} (ha : a < 2 ^ 31) (hb : b < 2 ^ 31) : nI a = nI b ↔ a = b := nI_eq ha hb
theorem xe_iadd {sh : List xSh} {Y : xY} {pc : Nat} {lv : List (Option Value)} {st : List Value} {M : xM} {Q : Option Value → xM → Prop} {x y v : Int32} (hd : decode Y.2.1 pc = .ok (.iadd, 1)) (hv : x + y = v) (k : WP sh Y (pc + 1) lv (.int v :: st) M Q) : WP sh Y pc lv (.int y :: .int x :: st) M Q := by
  subst hv
  exact xi_iadd hd k
theorem xe_isub {sh : List xSh} {Y : xY} {pc : Nat} {lv : List (Option Value)} {st : List Value} {M : xM} {Q : Option Value → xM → Prop} {x y v : Int32} (hd : decode Y.2.1 pc = .ok (.isub, 1)) (hv : x - y = v) (k : WP sh Y (pc + 1) lv (.int v :: st) M Q) : WP sh Y pc lv (.int y :: .int x :: st) M Q := by
  subst hv
  exact xi_isub hd k
theorem xe_imul {sh : List xSh} {Y : xY} {pc : Nat} {lv : List (Option Value)} {st : List Value} {M : xM} {Q : Option Value → xM → Prop} {x y v : Int32} (hd : decode Y.2.1 pc = .ok (.imul, 1)) (hv : x * y = v) (k : WP sh Y (pc + 1) lv (.int v :: st) M Q) : WP sh Y pc lv (.int y :: .int x :: st) M Q := by
  subst hv
  exact xi_imul hd k
theorem xe_iand {sh : List xSh} {Y : xY} {pc : Nat} {lv : List (Option Value)} {st : List Value} {M : xM} {Q : Option Value → xM → Prop} {x y v : Int32} (hd : decode Y.2.1 pc = .ok (.iand, 1)) (hv : x &&& y = v) (k : WP sh Y (pc + 1) lv (.int v :: st) M Q) : WP sh Y pc lv (.int y :: .int x :: st) M Q := by
  subst hv
  exact xi_iand hd k
theorem xe_ior {sh : List xSh} {Y : xY} {pc : Nat} {lv : List (Option Value)} {st : List Value} {M : xM} {Q : Option Value → xM → Prop} {x y v : Int32} (hd : decode Y.2.1 pc = .ok (.ior, 1)) (hv : x ||| y = v) (k : WP sh Y (pc + 1) lv (.int v :: st) M Q) : WP sh Y pc lv (.int y :: .int x :: st) M Q := by
  subst hv
  exact xi_ior hd k
theorem xe_ishl {sh : List xSh} {Y : xY} {pc : Nat} {lv : List (Option Value)} {st : List Value} {M : xM} {Q : Option Value → xM → Prop} {x y v : Int32} (hd : decode Y.2.1 pc = .ok (.ishl, 1)) (hv : x <<< (y &&& 31) = v) (k : WP sh Y (pc + 1) lv (.int v :: st) M Q) : WP sh Y pc lv (.int y :: .int x :: st) M Q := by
  subst hv
  exact xi_ishl hd k
theorem xe_ishr {sh : List xSh} {Y : xY} {pc : Nat} {lv : List (Option Value)} {st : List Value} {M : xM} {Q : Option Value → xM → Prop} {x y v : Int32} (hd : decode Y.2.1 pc = .ok (.ishr, 1)) (hv : x >>> (y &&& 31) = v) (k : WP sh Y (pc + 1) lv (.int v :: st) M Q) : WP sh Y pc lv (.int y :: .int x :: st) M Q := by
  subst hv
  exact xi_ishr hd k
theorem xe_idiv {sh : List xSh} {Y : xY} {pc : Nat} {lv : List (Option Value)} {st : List Value} {M : xM} {Q : Option Value → xM → Prop} {x y v : Int32} (hd : decode Y.2.1 pc = .ok (.idiv, 1)) (hne : ¬ y = 0) (hv : x / y = v) (k : WP sh Y (pc + 1) lv (.int v :: st) M Q) : WP sh Y pc lv (.int y :: .int x :: st) M Q := by
  subst hv
  exact xi_idiv hd hne k
theorem xe_irem {sh : List xSh} {Y : xY} {pc : Nat} {lv : List (Option Value)} {st : List Value} {M : xM} {Q : Option Value → xM → Prop} {x y v : Int32} (hd : decode Y.2.1 pc = .ok (.irem, 1)) (hne : ¬ y = 0) (hv : x - x / y * y = v) (k : WP sh Y (pc + 1) lv (.int v :: st) M Q) : WP sh Y pc lv (.int y :: .int x :: st) M Q := by
  subst hv
  exact xi_irem hd hne k
theorem xe_getI {sh : List xSh} {Y : xY} {pc : Nat} {lv : List (Option Value)} {st : List Value} {M : xM} {Q : Option Value → xM → Prop} {o ci k idx : Nat} {ks : List (Option Nat)} {v : Int32} (hd : decode Y.2.1 pc = .ok (.getfield idx, 3)) (hf : xFd Y.1.cls idx ci k) (hs : sh[o]? = some (.inl (ci, ks))) (hk : ks[k]? = some none) (hv : M.1 o k = v) (kk : WP sh Y (pc + 3) lv (.int v :: st) M Q) : WP sh Y pc lv (.ref o :: st) M Q := by
  subst hv
  exact xi_getI hd hf hs hk kk
theorem xe_iald {sh : List xSh} {Y : xY} {pc : Nat} {lv : List (Option Value)} {st : List Value} {M : xM} {Q : Option Value → xM → Prop} {a n : Nat} {g : Nat → Option Nat} {i v : Int32} (k : Nat) (hd : decode Y.2.1 pc = .ok (.iaload, 1)) (hs : sh[a]? = some (.inr (0, n, g))) (hn : n < 2 ^ 31) (hi : i = nI k) (hk : k < n) (hv : M.2.1 a k = v) (kk : WP sh Y (pc + 1) lv (.int v :: st) M Q) : WP sh Y pc lv (.int i :: .ref a :: st) M Q := by
  subst hi; subst hv
  refine xi_iald hd hs (vp_in_nI hk hn) ?_
  rw [nI_clamp (by omega)]
  exact kk
theorem xe_bald {sh : List xSh} {Y : xY} {pc : Nat} {lv : List (Option Value)} {st : List Value} {M : xM} {Q : Option Value → xM → Prop} {a n : Nat} {g : Nat → Option Nat} {i v : Int32} (k : Nat) (hd : decode Y.2.1 pc = .ok (.baload, 1)) (hs : sh[a]? = some (.inr (1, n, g))) (hn : n < 2 ^ 31) (hi : i = nI k) (hk : k < n) (hv : M.2.1 a k = v) (kk : WP sh Y (pc + 1) lv (.int v :: st) M Q) : WP sh Y pc lv (.int i :: .ref a :: st) M Q := by
  subst hi; subst hv
  refine xi_bald hd hs (vp_in_nI hk hn) ?_
  rw [nI_clamp (by omega)]
  exact kk
theorem xe_zald {sh : List xSh} {Y : xY} {pc : Nat} {lv : List (Option Value)} {st : List Value} {M : xM} {Q : Option Value → xM → Prop} {a n : Nat} {g : Nat → Option Nat} {i v : Int32} (k : Nat) (hd : decode Y.2.1 pc = .ok (.baload, 1)) (hs : sh[a]? = some (.inr (2, n, g))) (hn : n < 2 ^ 31) (hi : i = nI k) (hk : k < n) (hv : M.2.1 a k = v) (kk : WP sh Y (pc + 1) lv (.int v :: st) M Q) : WP sh Y pc lv (.int i :: .ref a :: st) M Q := by
  subst hi; subst hv
  refine xi_zald hd hs (vp_in_nI hk hn) ?_
  rw [nI_clamp (by omega)]
  exact kk
theorem xe_lald {sh : List xSh} {Y : xY} {pc : Nat} {lv : List (Option Value)} {st : List Value} {M : xM} {Q : Option Value → xM → Prop} {a n : Nat} {g : Nat → Option Nat} {i : Int32} {v : Int64} (k : Nat) (hd : decode Y.2.1 pc = .ok (.laload, 1)) (hs : sh[a]? = some (.inr (3, n, g))) (hn : n < 2 ^ 31) (hi : i = nI k) (hk : k < n) (hv : M.2.2 a k = v) (kk : WP sh Y (pc + 1) lv (.long v :: st) M Q) : WP sh Y pc lv (.int i :: .ref a :: st) M Q := by
  subst hi; subst hv
  refine xi_lald hd hs (vp_in_nI hk hn) ?_
  rw [nI_clamp (by omega)]
  exact kk
theorem xe_iast {sh : List xSh} {Y : xY} {pc : Nat} {lv : List (Option Value)} {st : List Value} {M : xM} {Q : Option Value → xM → Prop} {a n : Nat} {g : Nat → Option Nat} {i x : Int32} (k : Nat) (hd : decode Y.2.1 pc = .ok (.iastore, 1)) (hs : sh[a]? = some (.inr (0, n, g))) (hn : n < 2 ^ 31) (hi : i = nI k) (hk : k < n) (kk : WP sh Y (pc + 1) lv st (xa M a (upd (M.2.1 a) k x)) Q) : WP sh Y pc lv (.int x :: .int i :: .ref a :: st) M Q := by
  subst hi
  refine xi_iast hd hs (vp_in_nI hk hn) ?_
  rw [nI_clamp (by omega)]
  exact kk
theorem xe_bast {sh : List xSh} {Y : xY} {pc : Nat} {lv : List (Option Value)} {st : List Value} {M : xM} {Q : Option Value → xM → Prop} {a n : Nat} {g : Nat → Option Nat} {i x v : Int32} (k : Nat) (hd : decode Y.2.1 pc = .ok (.bastore, 1)) (hs : sh[a]? = some (.inr (1, n, g))) (hn : n < 2 ^ 31) (hi : i = nI k) (hk : k < n) (hv : vp_nar .byte x = v) (kk : WP sh Y (pc + 1) lv st (xa M a (upd (M.2.1 a) k v)) Q) : WP sh Y pc lv (.int x :: .int i :: .ref a :: st) M Q := by
  subst hi; subst hv
  refine xi_bast hd hs (vp_in_nI hk hn) ?_
  rw [nI_clamp (by omega)]
  exact kk
theorem xe_zast {sh : List xSh} {Y : xY} {pc : Nat} {lv : List (Option Value)} {st : List Value} {M : xM} {Q : Option Value → xM → Prop} {a n : Nat} {g : Nat → Option Nat} {i x v : Int32} (k : Nat) (hd : decode Y.2.1 pc = .ok (.bastore, 1)) (hs : sh[a]? = some (.inr (2, n, g))) (hn : n < 2 ^ 31) (hi : i = nI k) (hk : k < n) (hv : vp_nar .boolean x = v) (kk : WP sh Y (pc + 1) lv st (xa M a (upd (M.2.1 a) k v)) Q) : WP sh Y pc lv (.int x :: .int i :: .ref a :: st) M Q := by
  subst hi; subst hv
  refine xi_zast hd hs (vp_in_nI hk hn) ?_
  rw [nI_clamp (by omega)]
  exact kk
theorem xe_last {sh : List xSh} {Y : xY} {pc : Nat} {lv : List (Option Value)} {st : List Value} {M : xM} {Q : Option Value → xM → Prop} {a n : Nat} {g : Nat → Option Nat} {i : Int32} {x : Int64} (k : Nat) (hd : decode Y.2.1 pc = .ok (.lastore, 1)) (hs : sh[a]? = some (.inr (3, n, g))) (hn : n < 2 ^ 31) (hi : i = nI k) (hk : k < n) (kk : WP sh Y (pc + 1) lv st (xj M a (vp_updL (M.2.2 a) k x)) Q) : WP sh Y pc lv (.long x :: .int i :: .ref a :: st) M Q := by
  subst hi
  refine xi_last hd hs (vp_in_nI hk hn) ?_
  rw [nI_clamp (by omega)]
  exact kk
theorem xe_aald4 {sh : List xSh} {Y : xY} {pc : Nat} {lv : List (Option Value)} {st : List Value} {M : xM} {Q : Option Value → xM → Prop} {a n j : Nat} {g : Nat → Option Nat} {i : Int32} (k : Nat) (hd : decode Y.2.1 pc = .ok (.aaload, 1)) (hs : sh[a]? = some (.inr (4, n, g))) (hn : n < 2 ^ 31) (hi : i = nI k) (hk : k < n) (hg : g k = some j) (kk : WP sh Y (pc + 1) lv (.ref j :: st) M Q) : WP sh Y pc lv (.int i :: .ref a :: st) M Q := by
  subst hi
  exact xi_aald4 hd hs (vp_in_nI hk hn) (by rw [nI_clamp (by omega)]; exact hg) kk
theorem xe_aald5 {sh : List xSh} {Y : xY} {pc : Nat} {lv : List (Option Value)} {st : List Value} {M : xM} {Q : Option Value → xM → Prop} {a n j : Nat} {g : Nat → Option Nat} {i : Int32} (k : Nat) (hd : decode Y.2.1 pc = .ok (.aaload, 1)) (hs : sh[a]? = some (.inr (5, n, g))) (hn : n < 2 ^ 31) (hi : i = nI k) (hk : k < n) (hg : g k = some j) (kk : WP sh Y (pc + 1) lv (.ref j :: st) M Q) : WP sh Y pc lv (.int i :: .ref a :: st) M Q := by
  subst hi
  exact xi_aald5 hd hs (vp_in_nI hk hn) (by rw [nI_clamp (by omega)]; exact hg) kk
theorem xe_aald6 {sh : List xSh} {Y : xY} {pc : Nat} {lv : List (Option Value)} {st : List Value} {M : xM} {Q : Option Value → xM → Prop} {a n j : Nat} {g : Nat → Option Nat} {i : Int32} (k : Nat) (hd : decode Y.2.1 pc = .ok (.aaload, 1)) (hs : sh[a]? = some (.inr (6, n, g))) (hn : n < 2 ^ 31) (hi : i = nI k) (hk : k < n) (hg : g k = some j) (kk : WP sh Y (pc + 1) lv (.ref j :: st) M Q) : WP sh Y pc lv (.int i :: .ref a :: st) M Q := by
  subst hi
  exact xi_aald6 hd hs (vp_in_nI hk hn) (by rw [nI_clamp (by omega)]; exact hg) kk
theorem xn_icmp_eq {sh : List xSh} {Y : xY} {pc : Nat} {lv : List (Option Value)} {st : List Value} {M : xM} {Q : Option Value → xM → Prop} {x y : Int32} {off : Int} (a b tgt : Nat) (hd : decode Y.2.1 pc = .ok (.if_icmp .eq off, 3)) (ht : (pc : Int) + off = (tgt : Int)) (hx : x = nI a) (hy : y = nI b) (ha : a < 2 ^ 31) (hb : b < 2 ^ 31) (kt : a = b → WP sh Y tgt lv st M Q) (kf : ¬ a = b → WP sh Y (pc + 3) lv st M Q) : WP sh Y pc lv (.int y :: .int x :: st) M Q := by
  subst hx; subst hy
  exact xi_icmp_eq tgt hd ht (fun h => kt ((nI_eq ha hb).mp h)) (fun h => kf (fun q => h ((nI_eq ha hb).mpr q)))
theorem xn_icmp_ne {sh : List xSh} {Y : xY} {pc : Nat} {lv : List (Option Value)} {st : List Value} {M : xM} {Q : Option Value → xM → Prop} {x y : Int32} {off : Int} (a b tgt : Nat) (hd : decode Y.2.1 pc = .ok (.if_icmp .ne off, 3)) (ht : (pc : Int) + off = (tgt : Int)) (hx : x = nI a) (hy : y = nI b) (ha : a < 2 ^ 31) (hb : b < 2 ^ 31) (kt : ¬ a = b → WP sh Y tgt lv st M Q) (kf : a = b → WP sh Y (pc + 3) lv st M Q) : WP sh Y pc lv (.int y :: .int x :: st) M Q := by
  subst hx; subst hy
  exact xi_icmp_ne tgt hd ht (fun h => kt (fun q => h ((nI_eq ha hb).mpr q))) (fun h => kf ((nI_eq ha hb).mp h))
theorem xn_icmp_lt {sh : List xSh} {Y : xY} {pc : Nat} {lv : List (Option Value)} {st : List Value} {M : xM} {Q : Option Value → xM → Prop} {x y : Int32} {off : Int} (a b tgt : Nat) (hd : decode Y.2.1 pc = .ok (.if_icmp .lt off, 3)) (ht : (pc : Int) + off = (tgt : Int)) (hx : x = nI a) (hy : y = nI b) (ha : a < 2 ^ 31) (hb : b < 2 ^ 31) (kt : a < b → WP sh Y tgt lv st M Q) (kf : b ≤ a → WP sh Y (pc + 3) lv st M Q) : WP sh Y pc lv (.int y :: .int x :: st) M Q := by
  subst hx; subst hy
  exact xi_icmp_lt tgt hd ht (fun h => kt ((nI_ltI ha hb).mp h)) (fun h => kf (by have := mt (nI_ltI ha hb).mpr h; omega))
theorem xn_icmp_ge {sh : List xSh} {Y : xY} {pc : Nat} {lv : List (Option Value)} {st : List Value} {M : xM} {Q : Option Value → xM → Prop} {x y : Int32} {off : Int} (a b tgt : Nat) (hd : decode Y.2.1 pc = .ok (.if_icmp .ge off, 3)) (ht : (pc : Int) + off = (tgt : Int)) (hx : x = nI a) (hy : y = nI b) (ha : a < 2 ^ 31) (hb : b < 2 ^ 31) (kt : b ≤ a → WP sh Y tgt lv st M Q) (kf : a < b → WP sh Y (pc + 3) lv st M Q) : WP sh Y pc lv (.int y :: .int x :: st) M Q := by
  subst hx; subst hy
  exact xi_icmp_ge tgt hd ht (fun h => kt ((nI_leI hb ha).mp h)) (fun h => kf (by have := mt (nI_leI hb ha).mpr h; omega))
theorem xn_icmp_gt {sh : List xSh} {Y : xY} {pc : Nat} {lv : List (Option Value)} {st : List Value} {M : xM} {Q : Option Value → xM → Prop} {x y : Int32} {off : Int} (a b tgt : Nat) (hd : decode Y.2.1 pc = .ok (.if_icmp .gt off, 3)) (ht : (pc : Int) + off = (tgt : Int)) (hx : x = nI a) (hy : y = nI b) (ha : a < 2 ^ 31) (hb : b < 2 ^ 31) (kt : b < a → WP sh Y tgt lv st M Q) (kf : a ≤ b → WP sh Y (pc + 3) lv st M Q) : WP sh Y pc lv (.int y :: .int x :: st) M Q := by
  subst hx; subst hy
  exact xi_icmp_gt tgt hd ht (fun h => kt ((nI_ltI hb ha).mp h)) (fun h => kf (by have := mt (nI_ltI hb ha).mpr h; omega))
theorem xn_icmp_le {sh : List xSh} {Y : xY} {pc : Nat} {lv : List (Option Value)} {st : List Value} {M : xM} {Q : Option Value → xM → Prop} {x y : Int32} {off : Int} (a b tgt : Nat) (hd : decode Y.2.1 pc = .ok (.if_icmp .le off, 3)) (ht : (pc : Int) + off = (tgt : Int)) (hx : x = nI a) (hy : y = nI b) (ha : a < 2 ^ 31) (hb : b < 2 ^ 31) (kt : a ≤ b → WP sh Y tgt lv st M Q) (kf : b < a → WP sh Y (pc + 3) lv st M Q) : WP sh Y pc lv (.int y :: .int x :: st) M Q := by
  subst hx; subst hy
  exact xi_icmp_le tgt hd ht (fun h => kt ((nI_leI ha hb).mp h)) (fun h => kf (by have := mt (nI_leI ha hb).mpr h; omega))
theorem xn_if_eq {sh : List xSh} {Y : xY} {pc : Nat} {lv : List (Option Value)} {st : List Value} {M : xM} {Q : Option Value → xM → Prop} {x : Int32} {off : Int} (a tgt : Nat) (hd : decode Y.2.1 pc = .ok (.ifCond .eq off, 3)) (ht : (pc : Int) + off = (tgt : Int)) (hx : x = nI a) (ha : a < 2 ^ 31) (kt : a = 0 → WP sh Y tgt lv st M Q) (kf : ¬ a = 0 → WP sh Y (pc + 3) lv st M Q) : WP sh Y pc lv (.int x :: st) M Q := by
  subst hx
  exact xi_if_eq tgt hd ht (fun h => kt ((nI_eq ha (by decide)).mp h)) (fun h => kf (fun q => h (by rw [q]; rfl)))
theorem xn_if_ne {sh : List xSh} {Y : xY} {pc : Nat} {lv : List (Option Value)} {st : List Value} {M : xM} {Q : Option Value → xM → Prop} {x : Int32} {off : Int} (a tgt : Nat) (hd : decode Y.2.1 pc = .ok (.ifCond .ne off, 3)) (ht : (pc : Int) + off = (tgt : Int)) (hx : x = nI a) (ha : a < 2 ^ 31) (kt : ¬ a = 0 → WP sh Y tgt lv st M Q) (kf : a = 0 → WP sh Y (pc + 3) lv st M Q) : WP sh Y pc lv (.int x :: st) M Q := by
  subst hx
  exact xi_if_ne tgt hd ht (fun h => kt (fun q => h (by rw [q]; rfl))) (fun h => kf ((nI_eq ha (by decide)).mp h))
theorem xn_if_gt {sh : List xSh} {Y : xY} {pc : Nat} {lv : List (Option Value)} {st : List Value} {M : xM} {Q : Option Value → xM → Prop} {x : Int32} {off : Int} (a tgt : Nat) (hd : decode Y.2.1 pc = .ok (.ifCond .gt off, 3)) (ht : (pc : Int) + off = (tgt : Int)) (hx : x = nI a) (ha : a < 2 ^ 31) (kt : 0 < a → WP sh Y tgt lv st M Q) (kf : a = 0 → WP sh Y (pc + 3) lv st M Q) : WP sh Y pc lv (.int x :: st) M Q := by
  subst hx
  exact xi_if_gt tgt hd ht (fun h => kt ((nI_ltI (by decide) ha).mp h)) (fun h => kf (by have := mt (nI_ltI (a := 0) (by decide) ha).mpr h; omega))
theorem xn_if_le {sh : List xSh} {Y : xY} {pc : Nat} {lv : List (Option Value)} {st : List Value} {M : xM} {Q : Option Value → xM → Prop} {x : Int32} {off : Int} (a tgt : Nat) (hd : decode Y.2.1 pc = .ok (.ifCond .le off, 3)) (ht : (pc : Int) + off = (tgt : Int)) (hx : x = nI a) (ha : a < 2 ^ 31) (kt : a = 0 → WP sh Y tgt lv st M Q) (kf : 0 < a → WP sh Y (pc + 3) lv st M Q) : WP sh Y pc lv (.int x :: st) M Q := by
  subst hx
  exact xi_if_le tgt hd ht (fun h => kt (by have := (nI_leI (b := 0) ha (by decide)).mp h; omega)) (fun h => kf (by have := mt (nI_leI (b := 0) ha (by decide)).mpr h; omega))
theorem xn_if_ge {sh : List xSh} {Y : xY} {pc : Nat} {lv : List (Option Value)} {st : List Value} {M : xM} {Q : Option Value → xM → Prop} {x : Int32} {off : Int} (a tgt : Nat) (hd : decode Y.2.1 pc = .ok (.ifCond .ge off, 3)) (ht : (pc : Int) + off = (tgt : Int)) (hx : x = nI a) (ha : a < 2 ^ 31) (kt : WP sh Y tgt lv st M Q) : WP sh Y pc lv (.int x :: st) M Q := by
  subst hx
  exact xi_if_ge tgt hd ht (fun _ => kt) (fun h => absurd (nI_pos' ha) h)
theorem xn_if_lt {sh : List xSh} {Y : xY} {pc : Nat} {lv : List (Option Value)} {st : List Value} {M : xM} {Q : Option Value → xM → Prop} {x : Int32} {off : Int} (a : Nat) (tgt : Nat) (hd : decode Y.2.1 pc = .ok (.ifCond .lt off, 3)) (ht : (pc : Int) + off = (tgt : Int)) (hx : x = nI a) (ha : a < 2 ^ 31) (kf : WP sh Y (pc + 3) lv st M Q) : WP sh Y pc lv (.int x :: st) M Q := by
  subst hx
  exact xi_if_lt tgt hd ht (fun h => absurd h (nI_pos ha)) (fun _ => kf)
/-! truth values -/
theorem xb_if_eq {sh : List xSh} {Y : xY} {pc : Nat} {lv : List (Option Value)} {st : List Value} {M : xM} {Q : Option Value → xM → Prop} {x : Int32} {off : Int} (b : Bool) (tgt : Nat) (hd : decode Y.2.1 pc = .ok (.ifCond .eq off, 3)) (ht : (pc : Int) + off = (tgt : Int)) (hx : x = xb b) (kt : b = false → WP sh Y tgt lv st M Q) (kf : b = true → WP sh Y (pc + 3) lv st M Q) : WP sh Y pc lv (.int x :: st) M Q := by
  subst hx
  exact xi_if_eq tgt hd ht (fun h => kt (by cases b <;> simp_all [xb])) (fun h => kf (by cases b <;> simp_all [xb]))
theorem xb_if_ne {sh : List xSh} {Y : xY} {pc : Nat} {lv : List (Option Value)} {st : List Value} {M : xM} {Q : Option Value → xM → Prop} {x : Int32} {off : Int} (b : Bool) (tgt : Nat) (hd : decode Y.2.1 pc = .ok (.ifCond .ne off, 3)) (ht : (pc : Int) + off = (tgt : Int)) (hx : x = xb b) (kt : b = true → WP sh Y tgt lv st M Q) (kf : b = false → WP sh Y (pc + 3) lv st M Q) : WP sh Y pc lv (.int x :: st) M Q := by
  subst hx
  exact xi_if_ne tgt hd ht (fun h => kt (by cases b <;> simp_all [xb])) (fun h => kf (by cases b <;> simp_all [xb]))
theorem xb_zret {sh : List xSh} {Y : xY} {pc : Nat} {lv : List (Option Value)} {st : List Value} {M : xM} {Q : Option Value → xM → Prop} {v : Int32} (b : Bool) (hd : decode Y.2.1 pc = .ok (.ireturn, 1)) (hr : Y.2.2.2.1 = some .boolean) (hv : v = xb b) (hq : Q (some (.int (xb b))) M) : WP sh Y pc lv [.int v] M Q := by
  subst hv
  exact xi_zret hd hr (xb_01 b) hq
/-! places: -1 or a number -/
theorem xo_neg : (xo none) < 0 := by decide
theorem xo_if_ge {sh : List xSh} {Y : xY} {pc : Nat} {lv : List (Option Value)} {st : List Value} {M : xM} {Q : Option Value → xM → Prop} {x : Int32} {off : Int} (o : Option Nat) (tgt : Nat) (hd : decode Y.2.1 pc = .ok (.ifCond .ge off, 3)) (ht : (pc : Int) + off = (tgt : Int)) (hx : x = xo o) (ho : ∀ k, o = some k → k < 2 ^ 31) (kt : ∀ k, o = some k → WP sh Y tgt lv st M Q) (kf : o = none → WP sh Y (pc + 3) lv st M Q) : WP sh Y pc lv (.int x :: st) M Q := by
  subst hx
  cases o with
  | none => exact xi_if_ge tgt hd ht (fun h => absurd h (by decide)) (fun _ => kf rfl)
  | some k => exact xn_if_ge k tgt hd ht rfl (ho k rfl) (kt k rfl)
theorem xo_if_lt {sh : List xSh} {Y : xY} {pc : Nat} {lv : List (Option Value)} {st : List Value} {M : xM} {Q : Option Value → xM → Prop} {x : Int32} {off : Int} (o : Option Nat) (tgt : Nat) (hd : decode Y.2.1 pc = .ok (.ifCond .lt off, 3)) (ht : (pc : Int) + off = (tgt : Int)) (hx : x = xo o) (ho : ∀ k, o = some k → k < 2 ^ 31) (kt : o = none → WP sh Y tgt lv st M Q) (kf : ∀ k, o = some k → WP sh Y (pc + 3) lv st M Q) : WP sh Y pc lv (.int x :: st) M Q := by
  subst hx
  cases o with
  | none => exact xi_if_lt tgt hd ht (fun _ => kt rfl) (fun h => absurd (show xo none < 0 by decide) h)
  | some k => exact xn_if_lt k tgt hd ht rfl (ho k rfl) (kf k rfl)
