/-! ===== what the tables and the start give ===== -/
section Facts
variable {s : State} {b : Nat}
theorem zq0 (hts : ∀ w ∈ lw_tbl, w.before #[Value.ref b] s = true) (hgv : (Jvm.Cond.and given_1 narrow_1).before #[Value.ref b] s = true) : vx_Zq Bundle.tN "UNASSIGNED_STACK" Bundle.steD (fun q => s.heap.size ≤ q) s s.heap ∧ vx_Zq Bundle.tN "SUPPRESSED_SENTINEL" Bundle.listD (fun q => s.heap.size ≤ q) s s.heap := by
  have hf := flat_of_before _ hgv
  exact ⟨vx_Zqof (hts _ (lw_sub (ps := [280]) (by decide +kernel)) : (Cond.laysStatic "java/lang/Throwable" "UNASSIGNED_STACK" "[Ljava/lang/StackTraceElement;").before #[Value.ref b] s = true) (hts _ (lw_sub (ps := [46]) (by decide +kernel)) : (Cond.initialized "java/lang/Throwable").before #[Value.ref b] s = true) (hf _ (by decide +kernel)) (fun a h h2 => absurd h (Nat.not_lt.mpr h2)), vx_Zqof (hts _ (lw_sub (ps := [282]) (by decide +kernel)) : (Cond.laysStatic "java/lang/Throwable" "SUPPRESSED_SENTINEL" "Ljava/util/List;").before #[Value.ref b] s = true) (hts _ (lw_sub (ps := [46]) (by decide +kernel)) : (Cond.initialized "java/lang/Throwable").before #[Value.ref b] s = true) (hf _ (by decide +kernel)) (fun a h h2 => absurd h (Nat.not_lt.mpr h2))⟩
theorem cast0 (hts : ∀ w ∈ lw_tbl, w.before #[Value.ref b] s = true) : ∀ E ∈ xExs, va_Nw (.castable E E) s := by
  intro E hE
  simp only [xExs, List.mem_cons, List.not_mem_nil, or_false] at hE
  rcases hE with rfl | rfl | rfl | rfl
  · exact va_Nw.of rfl (hts _ (lw_sub (ps := [255]) (by decide +kernel)) : (Cond.castable "java/lang/IllegalArgumentException" "java/lang/IllegalArgumentException").before #[Value.ref b] s = true)
  · exact va_Nw.of rfl (hts _ (lw_sub (ps := [324]) (by decide +kernel)) : (Cond.castable "java/lang/IllegalStateException" "java/lang/IllegalStateException").before #[Value.ref b] s = true)
  · exact va_Nw.of rfl (hts _ (lw_sub (ps := [356]) (by decide +kernel)) : (Cond.castable "java/lang/IndexOutOfBoundsException" "java/lang/IndexOutOfBoundsException").before #[Value.ref b] s = true)
  · exact va_Nw.of rfl (hts _ (lw_sub (ps := [430]) (by decide +kernel)) : (Cond.castable "java/util/NoSuchElementException" "java/util/NoSuchElementException").before #[Value.ref b] s = true)
theorem nc0 (hgv : (Jvm.Cond.and given_1 narrow_1).before #[Value.ref b] s = true) : ∀ q ∈ xNc, va_Nc q.1 q.2 s := by
  have hf := flat_of_before _ hgv
  intro q hq
  simp only [xNc, List.mem_cons, List.not_mem_nil, or_false] at hq
  rcases hq with rfl | rfl | rfl
  · exact va_Nc.of (hf _ (by decide +kernel))
  · exact va_Nc.of (hf _ (by decide +kernel))
  · exact va_Nc.of (hf _ (by decide +kernel))
end Facts
