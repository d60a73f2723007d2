/-! ===== the start: the world as it is made; no stack traces ===== -/
theorem inv0 : Inv s0w 0 (fun _ => 0) 0 4 0 0 (fun _ _ => 0) (fun _ => 0) := by
  refine ⟨⟨rfl, by decide, fun k h => by omega⟩, ⟨rfl, rfl, rfl, by decide, by decide, by decide⟩, fun t ht => ?_, fun t ht => ⟨sm_zero 36, Nat.zero_le _, fun r => Nat.zero_le _⟩, rfl, ?_, fun s hs => Or.inl (if_pos hs)⟩
  · match t, ht with
    | 0, _ => exact ⟨rfl, Nat.zero_le _, fun r _ => ⟨rfl, Nat.zero_le _⟩⟩
    | 1, _ => exact ⟨rfl, Nat.zero_le _, fun r _ => ⟨rfl, Nat.zero_le _⟩⟩
    | 2, _ => exact ⟨rfl, Nat.zero_le _, fun r _ => ⟨rfl, Nat.zero_le _⟩⟩
    | 3, _ => exact ⟨rfl, Nat.zero_le _, fun r _ => ⟨rfl, Nat.zero_le _⟩⟩
    | 4, _ => exact ⟨rfl, Nat.zero_le _, fun r _ => ⟨rfl, Nat.zero_le _⟩⟩
  · have h : occ (s0w 17) = sm (fun _ => 0) 30 := sm_congr 30 (fun k hk => if_pos (if_pos hk))
    rw [h]
    exact sm_zero 30
theorem no_traces {l : Launch} (h : l.flags = flags0) : l.stackTraces = false := by
  first | (unfold Launch.stackTraces; rw [h]; rfl) | (simp [Launch.stackTraces, h, flags0])
/-! ===== what the tables and the start give ===== -/
section Facts
variable {s : State} {b : Nat}
theorem zq0 (hts : ∀ w ∈ lw_tbl, w.before #[Value.ref b] s = true) (hgv : (Jvm.Cond.and given_1 narrow_1).before #[Value.ref b] s = true) : vx_Zq Bundle.tN "UNASSIGNED_STACK" Bundle.steD (fun q => s.heap.size ≤ q) s s.heap ∧ vx_Zq Bundle.tN "SUPPRESSED_SENTINEL" Bundle.listD (fun q => s.heap.size ≤ q) s s.heap := by
  have hf := flat_of_before _ hgv
  exact ⟨vx_Zqof (hts _ (lw_sub (ps := [184]) (by decide +kernel)) : (Cond.laysStatic "java/lang/Throwable" "UNASSIGNED_STACK" "[Ljava/lang/StackTraceElement;").before #[Value.ref b] s = true) (hts _ (lw_sub (ps := [22]) (by decide +kernel)) : (Cond.initialized "java/lang/Throwable").before #[Value.ref b] s = true) (hf _ (by decide +kernel)) (fun a h h2 => absurd h (Nat.not_lt.mpr h2)), vx_Zqof (hts _ (lw_sub (ps := [186]) (by decide +kernel)) : (Cond.laysStatic "java/lang/Throwable" "SUPPRESSED_SENTINEL" "Ljava/util/List;").before #[Value.ref b] s = true) (hts _ (lw_sub (ps := [22]) (by decide +kernel)) : (Cond.initialized "java/lang/Throwable").before #[Value.ref b] s = true) (hf _ (by decide +kernel)) (fun a h h2 => absurd h (Nat.not_lt.mpr h2))⟩
theorem cast0 (hts : ∀ w ∈ lw_tbl, w.before #[Value.ref b] s = true) : ∀ E ∈ xExs, va_Nw (.castable E E) s := by
  intro E hE
  simp only [xExs, List.mem_cons, List.not_mem_nil, or_false] at hE
  rcases hE with rfl | rfl | rfl | rfl
  · exact va_Nw.of rfl (hts _ (lw_sub (ps := [159]) (by decide +kernel)) : (Cond.castable "java/lang/IllegalArgumentException" "java/lang/IllegalArgumentException").before #[Value.ref b] s = true)
  · exact va_Nw.of rfl (hts _ (lw_sub (ps := [228]) (by decide +kernel)) : (Cond.castable "java/lang/IllegalStateException" "java/lang/IllegalStateException").before #[Value.ref b] s = true)
  · exact va_Nw.of rfl (hts _ (lw_sub (ps := [273]) (by decide +kernel)) : (Cond.castable "java/lang/IndexOutOfBoundsException" "java/lang/IndexOutOfBoundsException").before #[Value.ref b] s = true)
  · exact va_Nw.of rfl (hts _ (lw_sub (ps := [335]) (by decide +kernel)) : (Cond.castable "java/util/NoSuchElementException" "java/util/NoSuchElementException").before #[Value.ref b] s = true)
theorem nc0 : ∀ q ∈ xNc, va_Nc q.1 q.2 s := fun q hq => absurd hq List.not_mem_nil
theorem dc0 (hts : ∀ w ∈ lw_tbl, w.before #[Value.ref b] s = true) : ∀ Y ∈ xDs, va_Nw (.declares (Bundle.initS Y)) s := by
  intro Y hY
  simp only [xDs, List.mem_cons, List.not_mem_nil, or_false] at hY
  rcases hY with rfl | rfl | rfl
  · exact va_Nw.of (A := #[Value.ref b]) rfl (hts _ (lw_sub (ps := [161]) (by decide +kernel)))
  · exact va_Nw.of (A := #[Value.ref b]) rfl (hts _ (lw_sub (ps := [163]) (by decide +kernel)))
  · exact va_Nw.of (A := #[Value.ref b]) rfl (hts _ (lw_sub (ps := [165]) (by decide +kernel)))
theorem isr {t : Term} {C : String} {A : Array Value} (h : (Cond.exactly t C).before A s = true) : ∃ a, t.eval A s none [] s = some (.ref a) := by
  obtain ⟨a, c, cell, k, h1, -⟩ := Cond.exactly_spec h
  exact ⟨a, h1⟩
theorem st0 (hts : ∀ w ∈ lw_tbl, w.before #[Value.ref b] s = true) (hgv : (Jvm.Cond.and given_1 narrow_1).before #[Value.ref b] s = true) : ∀ q ∈ xStr, ∃ sa, vk_R RX4 q.1 q.2 sa s := by
  have hf := flat_of_before _ hgv
  intro q hq
  simp only [xStr, List.mem_cons, List.not_mem_nil, or_false] at hq
  rcases hq with rfl | rfl | rfl | rfl | rfl | rfl | rfl | rfl | rfl | rfl | rfl | rfl
  · obtain ⟨a, ha⟩ := isr (t := .string "Tonguetell" 57) (C := "java/lang/String") (hf _ (by decide +kernel))
    exact ⟨a, vk_R.of (A := #[Value.ref b]) (hts _ (lw_sub (ps := [199]) (by decide +kernel))) ha⟩
  · obtain ⟨a, ha⟩ := isr (t := .string "Tonguetell" 67) (C := "java/lang/String") (hf _ (by decide +kernel))
    exact ⟨a, vk_R.of (A := #[Value.ref b]) (hts _ (lw_sub (ps := [235]) (by decide +kernel))) ha⟩
  · obtain ⟨a, ha⟩ := isr (t := .string "Tonguetell" 85) (C := "java/lang/String") (hf _ (by decide +kernel))
    exact ⟨a, vk_R.of (A := #[Value.ref b]) (hts _ (lw_sub (ps := [254]) (by decide +kernel))) ha⟩
  · obtain ⟨a, ha⟩ := isr (t := .string "Tonguetell" 93) (C := "java/lang/String") (hf _ (by decide +kernel))
    exact ⟨a, vk_R.of (A := #[Value.ref b]) (hts _ (lw_sub (ps := [287]) (by decide +kernel))) ha⟩
  · obtain ⟨a, ha⟩ := isr (t := .string "Tonguetell" 99) (C := "java/lang/String") (hf _ (by decide +kernel))
    exact ⟨a, vk_R.of (A := #[Value.ref b]) (hts _ (lw_sub (ps := [296]) (by decide +kernel))) ha⟩
  · obtain ⟨a, ha⟩ := isr (t := .string "Tonguetell" 155) (C := "java/lang/String") (hf _ (by decide +kernel))
    exact ⟨a, vk_R.of (A := #[Value.ref b]) (hts _ (lw_sub (ps := [365]) (by decide +kernel))) ha⟩
  · obtain ⟨a, ha⟩ := isr (t := .string "Tonguetell" 166) (C := "java/lang/String") (hf _ (by decide +kernel))
    exact ⟨a, vk_R.of (A := #[Value.ref b]) (hts _ (lw_sub (ps := [481]) (by decide +kernel))) ha⟩
  · obtain ⟨a, ha⟩ := isr (t := .string "Tonguetell" 187) (C := "java/lang/String") (hf _ (by decide +kernel))
    exact ⟨a, vk_R.of (A := #[Value.ref b]) (hts _ (lw_sub (ps := [416]) (by decide +kernel))) ha⟩
  · obtain ⟨a, ha⟩ := isr (t := .string "Tonguetell" 190) (C := "java/lang/String") (hf _ (by decide +kernel))
    exact ⟨a, vk_R.of (A := #[Value.ref b]) (hts _ (lw_sub (ps := [280]) (by decide +kernel))) ha⟩
  · obtain ⟨a, ha⟩ := isr (t := .string "Tonguetell" 192) (C := "java/lang/String") (hf _ (by decide +kernel))
    exact ⟨a, vk_R.of (A := #[Value.ref b]) (hts _ (lw_sub (ps := [411]) (by decide +kernel))) ha⟩
  · obtain ⟨a, ha⟩ := isr (t := .string "Tonguetell" 194) (C := "java/lang/String") (hf _ (by decide +kernel))
    exact ⟨a, vk_R.of (A := #[Value.ref b]) (hts _ (lw_sub (ps := [387]) (by decide +kernel))) ha⟩
  · obtain ⟨a, ha⟩ := isr (t := .string "Tonguetell" 201) (C := "java/lang/String") (hf _ (by decide +kernel))
    exact ⟨a, vk_R.of (A := #[Value.ref b]) (hts _ (lw_sub (ps := [342]) (by decide +kernel))) ha⟩
theorem ev0 (hts : ∀ w ∈ lw_tbl, w.before #[Value.ref b] s = true) (hgv : (Jvm.Cond.and given_1 narrow_1).before #[Value.ref b] s = true) : Ev (fun q => s.heap.size ≤ q) s s.heap := ⟨(zq0 hts hgv).1, (zq0 hts hgv).2, ⟨cast0 hts, dc0 hts⟩, st0 hts hgv, nc0⟩
theorem tys0 (hts : ∀ w ∈ lw_tbl, w.before #[Value.ref b] s = true) : ∃ cy : Nat → ClassId, ∀ (k : Nat) (q : ClassId × FieldType), (tysO cy)[k]? = some q → ArrOfT s q.1 q.2 ∧ va_RA s q.1 q.2 := by
  have w0 : (Cond.arrayClass .int).before #[Value.ref b] s = true := (hts _ (lw_sub (ps := [52]) (by decide +kernel)))
  have w1 : (Cond.arrayOver (.object RX3)).before #[Value.ref b] s = true := (hts _ (lw_sub (ps := [68]) (by decide +kernel)))
  have w2 : (Cond.arrayOver (.array .int)).before #[Value.ref b] s = true := (hts _ (lw_sub (ps := [76]) (by decide +kernel)))
  obtain ⟨c0, k0, p0, a1, a2, a3⟩ := Cond.arrayClass_spec w0
  obtain ⟨p1, c1, k1, b1, -, b3, b4, b5⟩ := Cond.arrayOver_spec w1
  obtain ⟨p2, c2, k2, d1, -, d3, d4, d5⟩ := arrayOver_specB w2
  refine ⟨fun i => match i with | 0 => c0 | 1 => c1 | _ => c2, fun k q hq => ?_⟩
  match k, hq with
  | 0, hq => cases hq; exact ⟨fun n z => ⟨fun k h => (by cases h), k0, a2, p0, a3⟩, a1⟩
  | 1, hq => cases hq; exact ⟨fun n z => ⟨fun k h => (by cases h), k1, b3, p1, b4⟩, k1, p1, b3, b4, b1, b5⟩
  | 2, hq => cases hq; exact ⟨fun n z => ⟨fun k h => (by cases h), k2, d3, p2, d4⟩, d5⟩
  | k + 3, hq => cases hq
theorem kn0 (hts : ∀ w ∈ lw_tbl, w.before #[Value.ref b] s = true) : ∃ (D : va_G) (cy : Nat → ClassId), va_K D vwCl (tysO cy) s := by
  obtain ⟨cy, hcy⟩ := tys0 hts
  obtain ⟨g0, i0, h0⟩ := u_known (n := 6) hts inX0 (hts _ (lw_sub (ps := [98]) (by decide +kernel)))
  obtain ⟨g1, i1, h1⟩ := u_known (n := 5) hts inX1 (hts _ (lw_sub (ps := [70]) (by decide +kernel)))
  obtain ⟨g2, i2, h2⟩ := u_known (n := 2) hts inX2 (hts _ (lw_sub (ps := [39]) (by decide +kernel)))
  obtain ⟨g3, i3, h3⟩ := u_known (n := 2) hts inX3 (hts _ (lw_sub (ps := [54]) (by decide +kernel)))
  obtain ⟨g4, i4, h4⟩ := u_known (n := 8) hts inX4 (hts _ (lw_sub (ps := [31]) (by decide +kernel)))
  refine ⟨(fun c => match c with | 0 => g0 | 1 => g1 | 2 => g2 | 3 => g3 | _ => g4, fun c => match c with | 0 => i0 | 1 => i1 | 2 => i2 | 3 => i3 | _ => i4), cy, fun c q hq => ?_, hcy⟩
  match c, hq with
  | 0, hq => cases hq; exact h0
  | 1, hq => cases hq; exact h1
  | 2, hq => cases hq; exact h2
  | 3, hq => cases hq; exact h3
  | 4, hq => cases hq; exact h4
  | c + 5, hq => cases hq
theorem cw0 (hts : ∀ w ∈ lw_tbl, w.before #[Value.ref b] s = true) : Cw s := ⟨va_AOA.of (A := #[Value.ref b]) (hts _ (lw_sub (ps := [76]) (by decide +kernel))), va_AO.of (A := #[Value.ref b]) (hts _ (lw_sub (ps := [68]) (by decide +kernel))), va_Nw.of (A := #[Value.ref b]) rfl (hts _ (lw_sub (ps := [40]) (by decide +kernel))), va_Nw.of (A := #[Value.ref b]) rfl (hts _ (lw_sub (ps := [55]) (by decide +kernel))), va_Nw.of (A := #[Value.ref b]) rfl (hts _ (lw_sub (ps := [99]) (by decide +kernel)))⟩
end Facts
