/-! ===== what the tables give: classes ===== -/
section Facts3
variable {s : State} {b : Nat}
theorem tys0 (hts : ∀ w ∈ lw_tbl, w.before #[Value.ref b] s = true) : ∃ cy : Nat → ClassId, ∀ (k : Nat) (q : ClassId × FieldType), (tysO cy)[k]? = some q → ArrOfT s q.1 q.2 ∧ va_RA s q.1 q.2 := by
  have w0 : (Cond.arrayClass .int).before #[Value.ref b] s = true := (hts _ (lw_sub (ps := [76]) (by decide +kernel)))
  have w3 : (Cond.arrayClass .long).before #[Value.ref b] s = true := (hts _ (lw_sub (ps := [843]) (by decide +kernel)))
  have w1 : (Cond.arrayOver (.object RX3)).before #[Value.ref b] s = true := (hts _ (lw_sub (ps := [92]) (by decide +kernel)))
  have w2 : (Cond.arrayOver (.array .int)).before #[Value.ref b] s = true := (hts _ (lw_sub (ps := [100]) (by decide +kernel)))
  obtain ⟨c0, k0, p0, a1, a2, a3⟩ := Cond.arrayClass_spec w0
  obtain ⟨c3, k3, p3, e1, e2, e3⟩ := Cond.arrayClass_spec w3
  obtain ⟨p1, c1, k1, b1, -, b3, b4, b5⟩ := Cond.arrayOver_spec w1
  obtain ⟨p2, c2, k2, d1, -, d3, d4, d5⟩ := arrayOver_specB w2
  refine ⟨fun i => match i with | 0 => c0 | 1 => c1 | 2 => c2 | _ => c3, fun k q hq => ?_⟩
  match k, hq with
  | 0, hq => cases hq; exact ⟨fun n z => ⟨fun k h => (by cases h), k0, a2, p0, a3⟩, a1⟩
  | 1, hq => cases hq; exact ⟨fun n z => ⟨fun k h => (by cases h), k1, b3, p1, b4⟩, k1, p1, b3, b4, b1, b5⟩
  | 2, hq => cases hq; exact ⟨fun n z => ⟨fun k h => (by cases h), k2, d3, p2, d4⟩, d5⟩
  | 3, hq => cases hq; exact ⟨fun n z => ⟨fun k h => (by cases h), k3, e2, p3, e3⟩, e1⟩
  | k + 4, hq => cases hq
theorem kn0 (hts : ∀ w ∈ lw_tbl, w.before #[Value.ref b] s = true) : ∃ (D : va_G) (cy : Nat → ClassId), va_K D vwCl (tysO cy) s := by
  obtain ⟨cy, hcy⟩ := tys0 hts
  obtain ⟨g0, i0, h0⟩ := u_known (n := 6) hts inX0 (hts _ (lw_sub (ps := [122]) (by decide +kernel)))
  obtain ⟨g1, i1, h1⟩ := u_known (n := 5) hts inX1 (hts _ (lw_sub (ps := [94]) (by decide +kernel)))
  obtain ⟨g2, i2, h2⟩ := u_known (n := 2) hts inX2 (hts _ (lw_sub (ps := [63]) (by decide +kernel)))
  obtain ⟨g3, i3, h3⟩ := u_known (n := 2) hts inX3 (hts _ (lw_sub (ps := [78]) (by decide +kernel)))
  obtain ⟨g4, i4, h4⟩ := u_known (n := 8) hts inX4 (hts _ (lw_sub (ps := [55]) (by decide +kernel)))
  obtain ⟨g5, i5, h5⟩ := u_known (n := 13) hts inX5 (hts _ (lw_sub (ps := [619]) (by decide +kernel)))
  refine ⟨(fun c => match c with | 0 => g0 | 1 => g1 | 2 => g2 | 3 => g3 | 4 => g4 | _ => g5, fun c => match c with | 0 => i0 | 1 => i1 | 2 => i2 | 3 => i3 | 4 => i4 | _ => i5), cy, fun c q hq => ?_, hcy⟩
  match c, hq with
  | 0, hq => cases hq; exact h0
  | 1, hq => cases hq; exact h1
  | 2, hq => cases hq; exact h2
  | 3, hq => cases hq; exact h3
  | 4, hq => cases hq; exact h4
  | 5, hq => cases hq; exact h5
  | c + 6, hq => cases hq
theorem cw0 (hts : ∀ w ∈ lw_tbl, w.before #[Value.ref b] s = true) : Cw s := ⟨va_AOA.of (A := #[Value.ref b]) (hts _ (lw_sub (ps := [100]) (by decide +kernel))), va_AO.of (A := #[Value.ref b]) (hts _ (lw_sub (ps := [92]) (by decide +kernel))), va_Nw.of (A := #[Value.ref b]) rfl (hts _ (lw_sub (ps := [64]) (by decide +kernel))), va_Nw.of (A := #[Value.ref b]) rfl (hts _ (lw_sub (ps := [79]) (by decide +kernel))), va_Nw.of (A := #[Value.ref b]) rfl (hts _ (lw_sub (ps := [123]) (by decide +kernel)))⟩
end Facts3
