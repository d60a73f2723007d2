/-! ===== what the tables and the start give: the throws ===== -/
section Facts2
variable {s : State} {b : Nat}
theorem dc0 (hts : ∀ w ∈ lw_tbl, w.before #[Value.ref b] s = true) : ∀ Y ∈ xDs, va_Nw (.declares (Bundle.initS Y)) s := by
  intro Y hY
  simp only [xDs, List.mem_cons, List.not_mem_nil, or_false] at hY
  rcases hY with rfl | rfl | rfl
  · exact va_Nw.of (A := #[Value.ref b]) rfl (hts _ (lw_sub (ps := [257]) (by decide +kernel)))
  · exact va_Nw.of (A := #[Value.ref b]) rfl (hts _ (lw_sub (ps := [259]) (by decide +kernel)))
  · exact va_Nw.of (A := #[Value.ref b]) rfl (hts _ (lw_sub (ps := [261]) (by decide +kernel)))
theorem isr {t : Term} {C : String} {A : Array Value} (h : (Cond.exactly t C).before A s = true) : ∃ a, t.eval A s none [] s = some (.ref a) := by
  obtain ⟨a, c, cell, k, h1, -⟩ := Cond.exactly_spec h
  exact ⟨a, h1⟩
theorem st0 (hts : ∀ w ∈ lw_tbl, w.before #[Value.ref b] s = true) (hgv : (Jvm.Cond.and given_1 narrow_1).before #[Value.ref b] s = true) : ∀ q ∈ xStr, ∃ sa, vk_R RX4 q.1 q.2 sa s := by
  have hf := flat_of_before _ hgv
  intro q hq
  simp only [xStr, List.mem_cons, List.not_mem_nil, or_false] at hq
  rcases hq with rfl | rfl | rfl | rfl | rfl | rfl | rfl | rfl | rfl | rfl | rfl | rfl | rfl | rfl
  · obtain ⟨a, ha⟩ := isr (t := .string "Tonguetell" 57) (C := "java/lang/String") (hf _ (by decide +kernel))
    exact ⟨a, vk_R.of (A := #[Value.ref b]) (hts _ (lw_sub (ps := [295]) (by decide +kernel))) ha⟩
  · obtain ⟨a, ha⟩ := isr (t := .string "Tonguetell" 67) (C := "java/lang/String") (hf _ (by decide +kernel))
    exact ⟨a, vk_R.of (A := #[Value.ref b]) (hts _ (lw_sub (ps := [331]) (by decide +kernel))) ha⟩
  · obtain ⟨a, ha⟩ := isr (t := .string "Tonguetell" 85) (C := "java/lang/String") (hf _ (by decide +kernel))
    exact ⟨a, vk_R.of (A := #[Value.ref b]) (hts _ (lw_sub (ps := [377]) (by decide +kernel))) ha⟩
  · obtain ⟨a, ha⟩ := isr (t := .string "Tonguetell" 93) (C := "java/lang/String") (hf _ (by decide +kernel))
    exact ⟨a, vk_R.of (A := #[Value.ref b]) (hts _ (lw_sub (ps := [394]) (by decide +kernel))) ha⟩
  · obtain ⟨a, ha⟩ := isr (t := .string "Tonguetell" 99) (C := "java/lang/String") (hf _ (by decide +kernel))
    exact ⟨a, vk_R.of (A := #[Value.ref b]) (hts _ (lw_sub (ps := [403]) (by decide +kernel))) ha⟩
  · obtain ⟨a, ha⟩ := isr (t := .string "Tonguetell" 149) (C := "java/lang/String") (hf _ (by decide +kernel))
    exact ⟨a, vk_R.of (A := #[Value.ref b]) (hts _ (lw_sub (ps := [512]) (by decide +kernel))) ha⟩
  · obtain ⟨a, ha⟩ := isr (t := .string "Tonguetell" 155) (C := "java/lang/String") (hf _ (by decide +kernel))
    exact ⟨a, vk_R.of (A := #[Value.ref b]) (hts _ (lw_sub (ps := [520]) (by decide +kernel))) ha⟩
  · obtain ⟨a, ha⟩ := isr (t := .string "Tonguetell" 166) (C := "java/lang/String") (hf _ (by decide +kernel))
    exact ⟨a, vk_R.of (A := #[Value.ref b]) (hts _ (lw_sub (ps := [572]) (by decide +kernel))) ha⟩
  · obtain ⟨a, ha⟩ := isr (t := .string "Tonguetell" 180) (C := "java/lang/String") (hf _ (by decide +kernel))
    exact ⟨a, vk_R.of (A := #[Value.ref b]) (hts _ (lw_sub (ps := [613]) (by decide +kernel))) ha⟩
  · obtain ⟨a, ha⟩ := isr (t := .string "Tonguetell" 187) (C := "java/lang/String") (hf _ (by decide +kernel))
    exact ⟨a, vk_R.of (A := #[Value.ref b]) (hts _ (lw_sub (ps := [363]) (by decide +kernel))) ha⟩
  · obtain ⟨a, ha⟩ := isr (t := .string "Tonguetell" 190) (C := "java/lang/String") (hf _ (by decide +kernel))
    exact ⟨a, vk_R.of (A := #[Value.ref b]) (hts _ (lw_sub (ps := [393]) (by decide +kernel))) ha⟩
  · obtain ⟨a, ha⟩ := isr (t := .string "Tonguetell" 192) (C := "java/lang/String") (hf _ (by decide +kernel))
    exact ⟨a, vk_R.of (A := #[Value.ref b]) (hts _ (lw_sub (ps := [532]) (by decide +kernel))) ha⟩
  · obtain ⟨a, ha⟩ := isr (t := .string "Tonguetell" 194) (C := "java/lang/String") (hf _ (by decide +kernel))
    exact ⟨a, vk_R.of (A := #[Value.ref b]) (hts _ (lw_sub (ps := [476]) (by decide +kernel))) ha⟩
  · obtain ⟨a, ha⟩ := isr (t := .string "Tonguetell" 201) (C := "java/lang/String") (hf _ (by decide +kernel))
    exact ⟨a, vk_R.of (A := #[Value.ref b]) (hts _ (lw_sub (ps := [437]) (by decide +kernel))) ha⟩
theorem ev0 (hts : ∀ w ∈ lw_tbl, w.before #[Value.ref b] s = true) (hgv : (Jvm.Cond.and given_1 narrow_1).before #[Value.ref b] s = true) : Ev (fun q => s.heap.size ≤ q) s s.heap := ⟨(zq0 hts hgv).1, (zq0 hts hgv).2, ⟨cast0 hts, dc0 hts⟩, st0 hts hgv, nc0 hgv⟩
end Facts2
