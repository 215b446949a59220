theorem eS {args : Array Value} {s : State} {own tx : String} {k : Nat} (ht : ∀ w ∈ lw_tbl, w.before args s = true) (h1 : Cond.stringRef own k tx ∈ tables_1) (h2 : (Cond.exactly (.string own k) "java/lang/String").before args s = true) : ∃ a, vk_R own k tx a s := by
  obtain ⟨a, c, cell, k9, e1, -⟩ := Cond.exactly_spec h2
  exact ⟨a, vk_R.of (ht _ (List.mem_append_right _ h1)) e1⟩
theorem eX {args : Array Value} {s : State} (ht : ∀ w ∈ lw_tbl, w.before args s = true) (hgv : (Jvm.Cond.and given_1 narrow_1).before args s = true) : xZx (lA s) s := by
  have hs := flat_of_before _ hgv
  have hA : ∀ a : Nat, a < s.heap.size → ¬ lA s a := fun a h => Nat.not_le.mpr h
  have h1 : Cond.laysStatic Bundle.tN "UNASSIGNED_STACK" Bundle.steD ∈ tables_1 := by decide +kernel
  have h2 : Cond.laysStatic Bundle.tN "SUPPRESSED_SENTINEL" Bundle.listD ∈ tables_1 := by decide +kernel
  have h3 : Cond.initialized Bundle.tN ∈ tables_1 := by decide +kernel
  have up : ∀ w ∈ tables_1, w.before args s = true := fun w h => ht w (List.mem_append_right _ h)
  exact ⟨eB ht, vx_Zqof (up _ h1) (up _ h3) (hs (.isRef (.static Bundle.tN "UNASSIGNED_STACK" Bundle.steD)) (by decide +kernel)) hA, vx_Zqof (up _ h2) (up _ h3) (hs (.isRef (.static Bundle.tN "SUPPRESSED_SENTINEL" Bundle.listD)) (by decide +kernel)) hA,
    eS ht (by decide +kernel) (hs _ (by decide +kernel)), eS ht (by decide +kernel) (hs _ (by decide +kernel)), eS ht (by decide +kernel) (hs _ (by decide +kernel)), va_Nc.of (hs (.not (.castable xIS xIA)) (by decide +kernel))⟩
