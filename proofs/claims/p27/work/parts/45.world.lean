/-! ===== the world as the law begins ===== -/
def s0w : sS := fun i => match i with | 0 => (fun k => if k = 6 then 3 else if k = 7 then 4 else 0) | 17 => (fun k => if k < 30 then -1 else 0) | _ => fun _ => 0
def Eqv (e1 e2 : va_E) : Prop := e1 = e2 ∨ ∃ (c : ClassId) (n : Nat) (f g : Nat → Option Nat), e1 = .inl (c, n, .inr (.inr (.inr (.inr f)))) ∧ e2 = .inl (c, n, .inr (.inr (.inr (.inr g)))) ∧ ∀ k, k < n → f k = g k
theorem arrV_agree {cA : ClassId} {n : Nat} {f g : Nat → Value} (h : ∀ k, k < n → f k = g k) : arrV cA n f = arrV cA n g := by
  unfold arrV
  congr 1
  refine Array.ext_getElem? fun i => ?_
  by_cases hi : i < n
  · simp [hi, h i hi]
  · simp [hi]
theorem Eqv.at {D : va_G} {a : Nat} {e1 e2 : va_E} {H : Heap} (h : Eqv e1 e2) (hP : va_at D vwCl (a, e1) H) : va_at D vwCl (a, e2) H := by
  rcases h with rfl | ⟨c, n, f, g, rfl, rfl, hk⟩
  · exact hP
  · have h1 : H[a]? = some (vp_cell c (n, .inr (.inr (.inr (.inr f))))) := hP
    show H[a]? = some (vp_cell c (n, .inr (.inr (.inr (.inr g)))))
    rw [h1, vp_cell_q, vp_cell_q, arrV_agree (fun k h => by rw [hk k h])]
def pi37 (i : Nat) : Nat := if i < 6 then i else if i < 11 then 79 + 2 * (i - 6) else if i < 16 then 80 + 2 * (i - 11) else if i < 89 then i - 10 else i
theorem pi37_inj : ∀ i, i < 89 → ∀ j, j < 89 → pi37 i = pi37 j → i = j := by decide +kernel
theorem wld_placed {D : va_G} {A : Nat → Prop} {W : va_W} {H : Heap} {ad : Nat → Nat} {cy : Nat → ClassId} {σ : sS} (hP : va_P D vwCl W H) (hD : va_D A W) (h : ∀ i, i < 89 → ∃ e, W[pi37 i]? = some (ad i, e) ∧ Eqv e (ent ad cy i (σ i))) : va_P D vwCl (wld ad cy σ) H ∧ Dis ad ∧ ∀ i, i < 89 → A (ad i) := by
  refine ⟨fun k q hq => ?_, fun i j hi hj e => ?_, fun i hi => ?_⟩
  · obtain ⟨hk, rfl⟩ := wld_of hq
    obtain ⟨e, h1, h2⟩ := h k hk
    exact h2.at (hP _ _ h1)
  · obtain ⟨e1, h1, -⟩ := h i hi
    obtain ⟨e2, h2, -⟩ := h j hj
    exact pi37_inj i hi j hj (hD.1 _ _ _ _ h1 h2 e)
  · obtain ⟨e1, h1, -⟩ := h i hi
    exact hD.2 _ _ h1
def ad37 (h0 q5 u5 q16 u16 q28 q35 s1 s2 s3 s4 q46 c1 c2 c3 q83a u83a q83b u83b q83c u83c q83d u83d q83e u83e : Nat) (sr cr1 cr3 : Nat → Nat) : Nat → Nat := fun i => if 21 ≤ i ∧ i < 51 then sr (i - 21) else if 53 ≤ i ∧ i < 70 then cr1 (i - 53) else if 72 ≤ i ∧ i < 89 then cr3 (i - 72) else [h0, q5, u5, q16, u16, q28, q83a, q83b, q83c, q83d, q83e, u83a, u83b, u83c, u83d, u83e, q35, s1, s2, s3, s4, 0, 0, 0, 0, 0, 0, 0, 0, 0, 0, 0, 0, 0, 0, 0, 0, 0, 0, 0, 0, 0, 0, 0, 0, 0, 0, 0, 0, 0, 0, q46, c1, 0, 0, 0, 0, 0, 0, 0, 0, 0, 0, 0, 0, 0, 0, 0, 0, 0, c2, c3, 0, 0, 0, 0, 0, 0, 0, 0, 0, 0, 0, 0, 0, 0, 0, 0, 0].getD i 0
abbrev wAll (cy : Nat → ClassId) (h0 q5 u5 q16 u16 q28 q35 s1 s2 s3 s4 q46 c1 c2 c3 q83a u83a q83b u83b q83c u83c q83d u83d q83e u83e : Nat) (sr cr1 cr3 : Nat → Nat) : va_W := wX4 cy h0 q5 u5 q16 u16 q28 q35 s1 s2 s3 s4 q46 c1 c2 c3 q83a u83a q83b u83b q83c u83c q83d u83d q83e u83e sr cr1 cr3
def AllB (P : Nat → Prop) : Nat → Prop | 0 => True | n + 1 => AllB P n ∧ P n
theorem AllB.at {P : Nat → Prop} : ∀ {n : Nat}, AllB P n → ∀ i, i < n → P i
  | n + 1, h, i, hi => by
    by_cases e : i = n
    · exact e ▸ h.2
    · exact AllB.at h.1 i (by omega)
section W37
variable (cy : Nat → ClassId) (h0 q5 u5 q16 u16 q28 q35 s1 s2 s3 s4 q46 c1 c2 c3 q83a u83a q83b u83b q83c u83c q83d u83d q83e u83e : Nat) (sr cr1 cr3 : Nat → Nat)
abbrev wLit : va_W := [(h0, .inr (4, [.ref q5, .ref q16, .ref q28, .ref q35, .ref q46, .int 0, .int 3, .int 4])), (q5, .inr (2, [.ref u5, .int 0])), (u5, .inl (cy 0, 16, .inl (fun _ => 0))), (q16, .inr (3, [.ref u16, .int 0])), (u16, .inl (cy 0, 36, .inl (fun _ => 0))), (q28, .inl (cy 1, 5, .inr (.inr (.inr (.inr (va_up (va_up (va_up (va_up (va_up sgF ((0 : Int32)).toNatClampNeg (some q83a)) ((1 : Int32)).toNatClampNeg (some q83b)) ((2 : Int32)).toNatClampNeg (some q83c)) ((3 : Int32)).toNatClampNeg (some q83d)) ((4 : Int32)).toNatClampNeg (some q83e))))))), (q35, .inr (1, [.ref s1, .ref s2, .ref s3, .ref s4, .int 0])), (s1, .inl (cy 0, 30, .inl (fun k => if k < 30 then -1 else 0))), (s2, .inl (cy 0, 30, .inl (fun _ => 0))), (s3, .inl (cy 0, 30, .inl (fun _ => 0))), (s4, .inl (cy 2, 30, .inr (.inr (.inr (.inr (fun i => if i < 30 then some (sr i) else none)))))), (sr 0, .inl (cy 0, 17, .inl (fun _ => 0))), (sr 1, .inl (cy 0, 17, .inl (fun _ => 0))), (sr 2, .inl (cy 0, 17, .inl (fun _ => 0))), (sr 3, .inl (cy 0, 17, .inl (fun _ => 0))), (sr 4, .inl (cy 0, 17, .inl (fun _ => 0))), (sr 5, .inl (cy 0, 17, .inl (fun _ => 0))), (sr 6, .inl (cy 0, 17, .inl (fun _ => 0))), (sr 7, .inl (cy 0, 17, .inl (fun _ => 0))), (sr 8, .inl (cy 0, 17, .inl (fun _ => 0))), (sr 9, .inl (cy 0, 17, .inl (fun _ => 0))), (sr 10, .inl (cy 0, 17, .inl (fun _ => 0))), (sr 11, .inl (cy 0, 17, .inl (fun _ => 0))), (sr 12, .inl (cy 0, 17, .inl (fun _ => 0))), (sr 13, .inl (cy 0, 17, .inl (fun _ => 0))), (sr 14, .inl (cy 0, 17, .inl (fun _ => 0))), (sr 15, .inl (cy 0, 17, .inl (fun _ => 0))), (sr 16, .inl (cy 0, 17, .inl (fun _ => 0))), (sr 17, .inl (cy 0, 17, .inl (fun _ => 0))), (sr 18, .inl (cy 0, 17, .inl (fun _ => 0))), (sr 19, .inl (cy 0, 17, .inl (fun _ => 0))), (sr 20, .inl (cy 0, 17, .inl (fun _ => 0))), (sr 21, .inl (cy 0, 17, .inl (fun _ => 0))), (sr 22, .inl (cy 0, 17, .inl (fun _ => 0))), (sr 23, .inl (cy 0, 17, .inl (fun _ => 0))), (sr 24, .inl (cy 0, 17, .inl (fun _ => 0))), (sr 25, .inl (cy 0, 17, .inl (fun _ => 0))), (sr 26, .inl (cy 0, 17, .inl (fun _ => 0))), (sr 27, .inl (cy 0, 17, .inl (fun _ => 0))), (sr 28, .inl (cy 0, 17, .inl (fun _ => 0))), (sr 29, .inl (cy 0, 17, .inl (fun _ => 0))), (q46, .inr (0, [.ref c1, .ref c2, .ref c3, .int 0, .int 0, .int 0])), (c1, .inl (cy 2, 17, .inr (.inr (.inr (.inr (fun i => if i < 17 then some (cr1 i) else none)))))), (cr1 0, .inl (cy 0, 5, .inl (fun _ => 0))), (cr1 1, .inl (cy 0, 5, .inl (fun _ => 0))), (cr1 2, .inl (cy 0, 5, .inl (fun _ => 0))), (cr1 3, .inl (cy 0, 5, .inl (fun _ => 0))), (cr1 4, .inl (cy 0, 5, .inl (fun _ => 0))), (cr1 5, .inl (cy 0, 5, .inl (fun _ => 0))), (cr1 6, .inl (cy 0, 5, .inl (fun _ => 0))), (cr1 7, .inl (cy 0, 5, .inl (fun _ => 0))), (cr1 8, .inl (cy 0, 5, .inl (fun _ => 0))), (cr1 9, .inl (cy 0, 5, .inl (fun _ => 0))), (cr1 10, .inl (cy 0, 5, .inl (fun _ => 0))), (cr1 11, .inl (cy 0, 5, .inl (fun _ => 0))), (cr1 12, .inl (cy 0, 5, .inl (fun _ => 0))), (cr1 13, .inl (cy 0, 5, .inl (fun _ => 0))), (cr1 14, .inl (cy 0, 5, .inl (fun _ => 0))), (cr1 15, .inl (cy 0, 5, .inl (fun _ => 0))), (cr1 16, .inl (cy 0, 5, .inl (fun _ => 0))), (c2, .inl (cy 0, 17, .inl (fun _ => 0))), (c3, .inl (cy 2, 17, .inr (.inr (.inr (.inr (fun i => if i < 17 then some (cr3 i) else none)))))), (cr3 0, .inl (cy 0, 5, .inl (fun _ => 0))), (cr3 1, .inl (cy 0, 5, .inl (fun _ => 0))), (cr3 2, .inl (cy 0, 5, .inl (fun _ => 0))), (cr3 3, .inl (cy 0, 5, .inl (fun _ => 0))), (cr3 4, .inl (cy 0, 5, .inl (fun _ => 0))), (cr3 5, .inl (cy 0, 5, .inl (fun _ => 0))), (cr3 6, .inl (cy 0, 5, .inl (fun _ => 0))), (cr3 7, .inl (cy 0, 5, .inl (fun _ => 0))), (cr3 8, .inl (cy 0, 5, .inl (fun _ => 0))), (cr3 9, .inl (cy 0, 5, .inl (fun _ => 0))), (cr3 10, .inl (cy 0, 5, .inl (fun _ => 0))), (cr3 11, .inl (cy 0, 5, .inl (fun _ => 0))), (cr3 12, .inl (cy 0, 5, .inl (fun _ => 0))), (cr3 13, .inl (cy 0, 5, .inl (fun _ => 0))), (cr3 14, .inl (cy 0, 5, .inl (fun _ => 0))), (cr3 15, .inl (cy 0, 5, .inl (fun _ => 0))), (cr3 16, .inl (cy 0, 5, .inl (fun _ => 0))), (q83a, .inr (3, [.ref u83a, .int 0])), (u83a, .inl (cy 0, 36, .inl (fun _ => 0))), (q83b, .inr (3, [.ref u83b, .int 0])), (u83b, .inl (cy 0, 36, .inl (fun _ => 0))), (q83c, .inr (3, [.ref u83c, .int 0])), (u83c, .inl (cy 0, 36, .inl (fun _ => 0))), (q83d, .inr (3, [.ref u83d, .int 0])), (u83d, .inl (cy 0, 36, .inl (fun _ => 0))), (q83e, .inr (3, [.ref u83e, .int 0])), (u83e, .inl (cy 0, 36, .inl (fun _ => 0)))]
set_option maxRecDepth 100000 in
set_option maxHeartbeats 4000000 in
theorem wAll_lit : wAll cy h0 q5 u5 q16 u16 q28 q35 s1 s2 s3 s4 q46 c1 c2 c3 q83a u83a q83b u83b q83c u83c q83d u83d q83e u83e sr cr1 cr3 = wLit cy h0 q5 u5 q16 u16 q28 q35 s1 s2 s3 s4 q46 c1 c2 c3 q83a u83a q83b u83b q83c u83c q83d u83d q83e u83e sr cr1 cr3 := rfl
def P37 (i : Nat) : Prop := ∃ e, (wLit cy h0 q5 u5 q16 u16 q28 q35 s1 s2 s3 s4 q46 c1 c2 c3 q83a u83a q83b u83b q83c u83c q83d u83d q83e u83e sr cr1 cr3)[pi37 i]? = some ((ad37 h0 q5 u5 q16 u16 q28 q35 s1 s2 s3 s4 q46 c1 c2 c3 q83a u83a q83b u83b q83c u83c q83d u83d q83e u83e sr cr1 cr3) i, e) ∧ Eqv e (ent (ad37 h0 q5 u5 q16 u16 q28 q35 s1 s2 s3 s4 q46 c1 c2 c3 q83a u83a q83b u83b q83c u83c q83d u83d q83e u83e sr cr1 cr3) cy i (s0w i))
set_option maxRecDepth 100000 in
set_option maxHeartbeats 2000000 in
theorem w37_0 : P37 cy h0 q5 u5 q16 u16 q28 q35 s1 s2 s3 s4 q46 c1 c2 c3 q83a u83a q83b u83b q83c u83c q83d u83d q83e u83e sr cr1 cr3 0 := ⟨_, rfl, Or.inl rfl⟩
set_option maxRecDepth 100000 in
set_option maxHeartbeats 2000000 in
theorem w37_1 : P37 cy h0 q5 u5 q16 u16 q28 q35 s1 s2 s3 s4 q46 c1 c2 c3 q83a u83a q83b u83b q83c u83c q83d u83d q83e u83e sr cr1 cr3 1 := ⟨_, rfl, Or.inl rfl⟩
set_option maxRecDepth 100000 in
set_option maxHeartbeats 2000000 in
theorem w37_2 : P37 cy h0 q5 u5 q16 u16 q28 q35 s1 s2 s3 s4 q46 c1 c2 c3 q83a u83a q83b u83b q83c u83c q83d u83d q83e u83e sr cr1 cr3 2 := ⟨_, rfl, Or.inl rfl⟩
set_option maxRecDepth 100000 in
set_option maxHeartbeats 2000000 in
theorem w37_3 : P37 cy h0 q5 u5 q16 u16 q28 q35 s1 s2 s3 s4 q46 c1 c2 c3 q83a u83a q83b u83b q83c u83c q83d u83d q83e u83e sr cr1 cr3 3 := ⟨_, rfl, Or.inl rfl⟩
set_option maxRecDepth 100000 in
set_option maxHeartbeats 2000000 in
theorem w37_4 : P37 cy h0 q5 u5 q16 u16 q28 q35 s1 s2 s3 s4 q46 c1 c2 c3 q83a u83a q83b u83b q83c u83c q83d u83d q83e u83e sr cr1 cr3 4 := ⟨_, rfl, Or.inl rfl⟩
set_option maxRecDepth 100000 in
set_option maxHeartbeats 2000000 in
theorem w37_5 : P37 cy h0 q5 u5 q16 u16 q28 q35 s1 s2 s3 s4 q46 c1 c2 c3 q83a u83a q83b u83b q83c u83c q83d u83d q83e u83e sr cr1 cr3 5 := ⟨_, rfl, Or.inr ⟨cy 1, 5, _, _, rfl, rfl, fun k hk => by match k, hk with | 0, _ => rfl | 1, _ => rfl | 2, _ => rfl | 3, _ => rfl | 4, _ => rfl⟩⟩
set_option maxRecDepth 100000 in
set_option maxHeartbeats 2000000 in
theorem w37_6 : P37 cy h0 q5 u5 q16 u16 q28 q35 s1 s2 s3 s4 q46 c1 c2 c3 q83a u83a q83b u83b q83c u83c q83d u83d q83e u83e sr cr1 cr3 6 := ⟨_, rfl, Or.inl rfl⟩
set_option maxRecDepth 100000 in
set_option maxHeartbeats 2000000 in
theorem w37_7 : P37 cy h0 q5 u5 q16 u16 q28 q35 s1 s2 s3 s4 q46 c1 c2 c3 q83a u83a q83b u83b q83c u83c q83d u83d q83e u83e sr cr1 cr3 7 := ⟨_, rfl, Or.inl rfl⟩
set_option maxRecDepth 100000 in
set_option maxHeartbeats 2000000 in
theorem w37_8 : P37 cy h0 q5 u5 q16 u16 q28 q35 s1 s2 s3 s4 q46 c1 c2 c3 q83a u83a q83b u83b q83c u83c q83d u83d q83e u83e sr cr1 cr3 8 := ⟨_, rfl, Or.inl rfl⟩
set_option maxRecDepth 100000 in
set_option maxHeartbeats 2000000 in
theorem w37_9 : P37 cy h0 q5 u5 q16 u16 q28 q35 s1 s2 s3 s4 q46 c1 c2 c3 q83a u83a q83b u83b q83c u83c q83d u83d q83e u83e sr cr1 cr3 9 := ⟨_, rfl, Or.inl rfl⟩
set_option maxRecDepth 100000 in
set_option maxHeartbeats 2000000 in
theorem w37_10 : P37 cy h0 q5 u5 q16 u16 q28 q35 s1 s2 s3 s4 q46 c1 c2 c3 q83a u83a q83b u83b q83c u83c q83d u83d q83e u83e sr cr1 cr3 10 := ⟨_, rfl, Or.inl rfl⟩
set_option maxRecDepth 100000 in
set_option maxHeartbeats 2000000 in
theorem w37_11 : P37 cy h0 q5 u5 q16 u16 q28 q35 s1 s2 s3 s4 q46 c1 c2 c3 q83a u83a q83b u83b q83c u83c q83d u83d q83e u83e sr cr1 cr3 11 := ⟨_, rfl, Or.inl rfl⟩
set_option maxRecDepth 100000 in
set_option maxHeartbeats 2000000 in
theorem w37_12 : P37 cy h0 q5 u5 q16 u16 q28 q35 s1 s2 s3 s4 q46 c1 c2 c3 q83a u83a q83b u83b q83c u83c q83d u83d q83e u83e sr cr1 cr3 12 := ⟨_, rfl, Or.inl rfl⟩
set_option maxRecDepth 100000 in
set_option maxHeartbeats 2000000 in
theorem w37_13 : P37 cy h0 q5 u5 q16 u16 q28 q35 s1 s2 s3 s4 q46 c1 c2 c3 q83a u83a q83b u83b q83c u83c q83d u83d q83e u83e sr cr1 cr3 13 := ⟨_, rfl, Or.inl rfl⟩
set_option maxRecDepth 100000 in
set_option maxHeartbeats 2000000 in
theorem w37_14 : P37 cy h0 q5 u5 q16 u16 q28 q35 s1 s2 s3 s4 q46 c1 c2 c3 q83a u83a q83b u83b q83c u83c q83d u83d q83e u83e sr cr1 cr3 14 := ⟨_, rfl, Or.inl rfl⟩
set_option maxRecDepth 100000 in
set_option maxHeartbeats 2000000 in
theorem w37_15 : P37 cy h0 q5 u5 q16 u16 q28 q35 s1 s2 s3 s4 q46 c1 c2 c3 q83a u83a q83b u83b q83c u83c q83d u83d q83e u83e sr cr1 cr3 15 := ⟨_, rfl, Or.inl rfl⟩
set_option maxRecDepth 100000 in
set_option maxHeartbeats 2000000 in
theorem w37_16 : P37 cy h0 q5 u5 q16 u16 q28 q35 s1 s2 s3 s4 q46 c1 c2 c3 q83a u83a q83b u83b q83c u83c q83d u83d q83e u83e sr cr1 cr3 16 := ⟨_, rfl, Or.inl rfl⟩
set_option maxRecDepth 100000 in
set_option maxHeartbeats 2000000 in
theorem w37_17 : P37 cy h0 q5 u5 q16 u16 q28 q35 s1 s2 s3 s4 q46 c1 c2 c3 q83a u83a q83b u83b q83c u83c q83d u83d q83e u83e sr cr1 cr3 17 := ⟨_, rfl, Or.inl rfl⟩
set_option maxRecDepth 100000 in
set_option maxHeartbeats 2000000 in
theorem w37_18 : P37 cy h0 q5 u5 q16 u16 q28 q35 s1 s2 s3 s4 q46 c1 c2 c3 q83a u83a q83b u83b q83c u83c q83d u83d q83e u83e sr cr1 cr3 18 := ⟨_, rfl, Or.inl rfl⟩
set_option maxRecDepth 100000 in
set_option maxHeartbeats 2000000 in
theorem w37_19 : P37 cy h0 q5 u5 q16 u16 q28 q35 s1 s2 s3 s4 q46 c1 c2 c3 q83a u83a q83b u83b q83c u83c q83d u83d q83e u83e sr cr1 cr3 19 := ⟨_, rfl, Or.inl rfl⟩
set_option maxRecDepth 100000 in
set_option maxHeartbeats 2000000 in
theorem w37_20 : P37 cy h0 q5 u5 q16 u16 q28 q35 s1 s2 s3 s4 q46 c1 c2 c3 q83a u83a q83b u83b q83c u83c q83d u83d q83e u83e sr cr1 cr3 20 := ⟨_, rfl, Or.inr ⟨cy 2, 30, _, _, rfl, rfl, fun k hk => by rw [if_pos hk]; refine congrArg some ?_; unfold ad37; rw [if_pos (by omega), Nat.add_sub_cancel_left]⟩⟩
set_option maxRecDepth 100000 in
set_option maxHeartbeats 2000000 in
theorem w37_21 : P37 cy h0 q5 u5 q16 u16 q28 q35 s1 s2 s3 s4 q46 c1 c2 c3 q83a u83a q83b u83b q83c u83c q83d u83d q83e u83e sr cr1 cr3 21 := ⟨_, rfl, Or.inl rfl⟩
set_option maxRecDepth 100000 in
set_option maxHeartbeats 2000000 in
theorem w37_22 : P37 cy h0 q5 u5 q16 u16 q28 q35 s1 s2 s3 s4 q46 c1 c2 c3 q83a u83a q83b u83b q83c u83c q83d u83d q83e u83e sr cr1 cr3 22 := ⟨_, rfl, Or.inl rfl⟩
set_option maxRecDepth 100000 in
set_option maxHeartbeats 2000000 in
theorem w37_23 : P37 cy h0 q5 u5 q16 u16 q28 q35 s1 s2 s3 s4 q46 c1 c2 c3 q83a u83a q83b u83b q83c u83c q83d u83d q83e u83e sr cr1 cr3 23 := ⟨_, rfl, Or.inl rfl⟩
set_option maxRecDepth 100000 in
set_option maxHeartbeats 2000000 in
theorem w37_24 : P37 cy h0 q5 u5 q16 u16 q28 q35 s1 s2 s3 s4 q46 c1 c2 c3 q83a u83a q83b u83b q83c u83c q83d u83d q83e u83e sr cr1 cr3 24 := ⟨_, rfl, Or.inl rfl⟩
set_option maxRecDepth 100000 in
set_option maxHeartbeats 2000000 in
theorem w37_25 : P37 cy h0 q5 u5 q16 u16 q28 q35 s1 s2 s3 s4 q46 c1 c2 c3 q83a u83a q83b u83b q83c u83c q83d u83d q83e u83e sr cr1 cr3 25 := ⟨_, rfl, Or.inl rfl⟩
set_option maxRecDepth 100000 in
set_option maxHeartbeats 2000000 in
theorem w37_26 : P37 cy h0 q5 u5 q16 u16 q28 q35 s1 s2 s3 s4 q46 c1 c2 c3 q83a u83a q83b u83b q83c u83c q83d u83d q83e u83e sr cr1 cr3 26 := ⟨_, rfl, Or.inl rfl⟩
set_option maxRecDepth 100000 in
set_option maxHeartbeats 2000000 in
theorem w37_27 : P37 cy h0 q5 u5 q16 u16 q28 q35 s1 s2 s3 s4 q46 c1 c2 c3 q83a u83a q83b u83b q83c u83c q83d u83d q83e u83e sr cr1 cr3 27 := ⟨_, rfl, Or.inl rfl⟩
set_option maxRecDepth 100000 in
set_option maxHeartbeats 2000000 in
theorem w37_28 : P37 cy h0 q5 u5 q16 u16 q28 q35 s1 s2 s3 s4 q46 c1 c2 c3 q83a u83a q83b u83b q83c u83c q83d u83d q83e u83e sr cr1 cr3 28 := ⟨_, rfl, Or.inl rfl⟩
set_option maxRecDepth 100000 in
set_option maxHeartbeats 2000000 in
theorem w37_29 : P37 cy h0 q5 u5 q16 u16 q28 q35 s1 s2 s3 s4 q46 c1 c2 c3 q83a u83a q83b u83b q83c u83c q83d u83d q83e u83e sr cr1 cr3 29 := ⟨_, rfl, Or.inl rfl⟩
set_option maxRecDepth 100000 in
set_option maxHeartbeats 2000000 in
theorem w37_30 : P37 cy h0 q5 u5 q16 u16 q28 q35 s1 s2 s3 s4 q46 c1 c2 c3 q83a u83a q83b u83b q83c u83c q83d u83d q83e u83e sr cr1 cr3 30 := ⟨_, rfl, Or.inl rfl⟩
set_option maxRecDepth 100000 in
set_option maxHeartbeats 2000000 in
theorem w37_31 : P37 cy h0 q5 u5 q16 u16 q28 q35 s1 s2 s3 s4 q46 c1 c2 c3 q83a u83a q83b u83b q83c u83c q83d u83d q83e u83e sr cr1 cr3 31 := ⟨_, rfl, Or.inl rfl⟩
set_option maxRecDepth 100000 in
set_option maxHeartbeats 2000000 in
theorem w37_32 : P37 cy h0 q5 u5 q16 u16 q28 q35 s1 s2 s3 s4 q46 c1 c2 c3 q83a u83a q83b u83b q83c u83c q83d u83d q83e u83e sr cr1 cr3 32 := ⟨_, rfl, Or.inl rfl⟩
set_option maxRecDepth 100000 in
set_option maxHeartbeats 2000000 in
theorem w37_33 : P37 cy h0 q5 u5 q16 u16 q28 q35 s1 s2 s3 s4 q46 c1 c2 c3 q83a u83a q83b u83b q83c u83c q83d u83d q83e u83e sr cr1 cr3 33 := ⟨_, rfl, Or.inl rfl⟩
set_option maxRecDepth 100000 in
set_option maxHeartbeats 2000000 in
theorem w37_34 : P37 cy h0 q5 u5 q16 u16 q28 q35 s1 s2 s3 s4 q46 c1 c2 c3 q83a u83a q83b u83b q83c u83c q83d u83d q83e u83e sr cr1 cr3 34 := ⟨_, rfl, Or.inl rfl⟩
set_option maxRecDepth 100000 in
set_option maxHeartbeats 2000000 in
theorem w37_35 : P37 cy h0 q5 u5 q16 u16 q28 q35 s1 s2 s3 s4 q46 c1 c2 c3 q83a u83a q83b u83b q83c u83c q83d u83d q83e u83e sr cr1 cr3 35 := ⟨_, rfl, Or.inl rfl⟩
set_option maxRecDepth 100000 in
set_option maxHeartbeats 2000000 in
theorem w37_36 : P37 cy h0 q5 u5 q16 u16 q28 q35 s1 s2 s3 s4 q46 c1 c2 c3 q83a u83a q83b u83b q83c u83c q83d u83d q83e u83e sr cr1 cr3 36 := ⟨_, rfl, Or.inl rfl⟩
set_option maxRecDepth 100000 in
set_option maxHeartbeats 2000000 in
theorem w37_37 : P37 cy h0 q5 u5 q16 u16 q28 q35 s1 s2 s3 s4 q46 c1 c2 c3 q83a u83a q83b u83b q83c u83c q83d u83d q83e u83e sr cr1 cr3 37 := ⟨_, rfl, Or.inl rfl⟩
set_option maxRecDepth 100000 in
set_option maxHeartbeats 2000000 in
theorem w37_38 : P37 cy h0 q5 u5 q16 u16 q28 q35 s1 s2 s3 s4 q46 c1 c2 c3 q83a u83a q83b u83b q83c u83c q83d u83d q83e u83e sr cr1 cr3 38 := ⟨_, rfl, Or.inl rfl⟩
set_option maxRecDepth 100000 in
set_option maxHeartbeats 2000000 in
theorem w37_39 : P37 cy h0 q5 u5 q16 u16 q28 q35 s1 s2 s3 s4 q46 c1 c2 c3 q83a u83a q83b u83b q83c u83c q83d u83d q83e u83e sr cr1 cr3 39 := ⟨_, rfl, Or.inl rfl⟩
set_option maxRecDepth 100000 in
set_option maxHeartbeats 2000000 in
theorem w37_40 : P37 cy h0 q5 u5 q16 u16 q28 q35 s1 s2 s3 s4 q46 c1 c2 c3 q83a u83a q83b u83b q83c u83c q83d u83d q83e u83e sr cr1 cr3 40 := ⟨_, rfl, Or.inl rfl⟩
set_option maxRecDepth 100000 in
set_option maxHeartbeats 2000000 in
theorem w37_41 : P37 cy h0 q5 u5 q16 u16 q28 q35 s1 s2 s3 s4 q46 c1 c2 c3 q83a u83a q83b u83b q83c u83c q83d u83d q83e u83e sr cr1 cr3 41 := ⟨_, rfl, Or.inl rfl⟩
set_option maxRecDepth 100000 in
set_option maxHeartbeats 2000000 in
theorem w37_42 : P37 cy h0 q5 u5 q16 u16 q28 q35 s1 s2 s3 s4 q46 c1 c2 c3 q83a u83a q83b u83b q83c u83c q83d u83d q83e u83e sr cr1 cr3 42 := ⟨_, rfl, Or.inl rfl⟩
set_option maxRecDepth 100000 in
set_option maxHeartbeats 2000000 in
theorem w37_43 : P37 cy h0 q5 u5 q16 u16 q28 q35 s1 s2 s3 s4 q46 c1 c2 c3 q83a u83a q83b u83b q83c u83c q83d u83d q83e u83e sr cr1 cr3 43 := ⟨_, rfl, Or.inl rfl⟩
set_option maxRecDepth 100000 in
set_option maxHeartbeats 2000000 in
theorem w37_44 : P37 cy h0 q5 u5 q16 u16 q28 q35 s1 s2 s3 s4 q46 c1 c2 c3 q83a u83a q83b u83b q83c u83c q83d u83d q83e u83e sr cr1 cr3 44 := ⟨_, rfl, Or.inl rfl⟩
set_option maxRecDepth 100000 in
set_option maxHeartbeats 2000000 in
theorem w37_45 : P37 cy h0 q5 u5 q16 u16 q28 q35 s1 s2 s3 s4 q46 c1 c2 c3 q83a u83a q83b u83b q83c u83c q83d u83d q83e u83e sr cr1 cr3 45 := ⟨_, rfl, Or.inl rfl⟩
set_option maxRecDepth 100000 in
set_option maxHeartbeats 2000000 in
theorem w37_46 : P37 cy h0 q5 u5 q16 u16 q28 q35 s1 s2 s3 s4 q46 c1 c2 c3 q83a u83a q83b u83b q83c u83c q83d u83d q83e u83e sr cr1 cr3 46 := ⟨_, rfl, Or.inl rfl⟩
set_option maxRecDepth 100000 in
set_option maxHeartbeats 2000000 in
theorem w37_47 : P37 cy h0 q5 u5 q16 u16 q28 q35 s1 s2 s3 s4 q46 c1 c2 c3 q83a u83a q83b u83b q83c u83c q83d u83d q83e u83e sr cr1 cr3 47 := ⟨_, rfl, Or.inl rfl⟩
set_option maxRecDepth 100000 in
set_option maxHeartbeats 2000000 in
theorem w37_48 : P37 cy h0 q5 u5 q16 u16 q28 q35 s1 s2 s3 s4 q46 c1 c2 c3 q83a u83a q83b u83b q83c u83c q83d u83d q83e u83e sr cr1 cr3 48 := ⟨_, rfl, Or.inl rfl⟩
set_option maxRecDepth 100000 in
set_option maxHeartbeats 2000000 in
theorem w37_49 : P37 cy h0 q5 u5 q16 u16 q28 q35 s1 s2 s3 s4 q46 c1 c2 c3 q83a u83a q83b u83b q83c u83c q83d u83d q83e u83e sr cr1 cr3 49 := ⟨_, rfl, Or.inl rfl⟩
set_option maxRecDepth 100000 in
set_option maxHeartbeats 2000000 in
theorem w37_50 : P37 cy h0 q5 u5 q16 u16 q28 q35 s1 s2 s3 s4 q46 c1 c2 c3 q83a u83a q83b u83b q83c u83c q83d u83d q83e u83e sr cr1 cr3 50 := ⟨_, rfl, Or.inl rfl⟩
set_option maxRecDepth 100000 in
set_option maxHeartbeats 2000000 in
theorem w37_51 : P37 cy h0 q5 u5 q16 u16 q28 q35 s1 s2 s3 s4 q46 c1 c2 c3 q83a u83a q83b u83b q83c u83c q83d u83d q83e u83e sr cr1 cr3 51 := ⟨_, rfl, Or.inl rfl⟩
set_option maxRecDepth 100000 in
set_option maxHeartbeats 2000000 in
theorem w37_52 : P37 cy h0 q5 u5 q16 u16 q28 q35 s1 s2 s3 s4 q46 c1 c2 c3 q83a u83a q83b u83b q83c u83c q83d u83d q83e u83e sr cr1 cr3 52 := ⟨_, rfl, Or.inr ⟨cy 2, 17, _, _, rfl, rfl, fun k hk => by rw [if_pos hk]; refine congrArg some ?_; unfold ad37; rw [if_neg (by omega), if_pos (by omega), Nat.add_sub_cancel_left]⟩⟩
set_option maxRecDepth 100000 in
set_option maxHeartbeats 2000000 in
theorem w37_53 : P37 cy h0 q5 u5 q16 u16 q28 q35 s1 s2 s3 s4 q46 c1 c2 c3 q83a u83a q83b u83b q83c u83c q83d u83d q83e u83e sr cr1 cr3 53 := ⟨_, rfl, Or.inl rfl⟩
set_option maxRecDepth 100000 in
set_option maxHeartbeats 2000000 in
theorem w37_54 : P37 cy h0 q5 u5 q16 u16 q28 q35 s1 s2 s3 s4 q46 c1 c2 c3 q83a u83a q83b u83b q83c u83c q83d u83d q83e u83e sr cr1 cr3 54 := ⟨_, rfl, Or.inl rfl⟩
set_option maxRecDepth 100000 in
set_option maxHeartbeats 2000000 in
theorem w37_55 : P37 cy h0 q5 u5 q16 u16 q28 q35 s1 s2 s3 s4 q46 c1 c2 c3 q83a u83a q83b u83b q83c u83c q83d u83d q83e u83e sr cr1 cr3 55 := ⟨_, rfl, Or.inl rfl⟩
set_option maxRecDepth 100000 in
set_option maxHeartbeats 2000000 in
theorem w37_56 : P37 cy h0 q5 u5 q16 u16 q28 q35 s1 s2 s3 s4 q46 c1 c2 c3 q83a u83a q83b u83b q83c u83c q83d u83d q83e u83e sr cr1 cr3 56 := ⟨_, rfl, Or.inl rfl⟩
set_option maxRecDepth 100000 in
set_option maxHeartbeats 2000000 in
theorem w37_57 : P37 cy h0 q5 u5 q16 u16 q28 q35 s1 s2 s3 s4 q46 c1 c2 c3 q83a u83a q83b u83b q83c u83c q83d u83d q83e u83e sr cr1 cr3 57 := ⟨_, rfl, Or.inl rfl⟩
set_option maxRecDepth 100000 in
set_option maxHeartbeats 2000000 in
theorem w37_58 : P37 cy h0 q5 u5 q16 u16 q28 q35 s1 s2 s3 s4 q46 c1 c2 c3 q83a u83a q83b u83b q83c u83c q83d u83d q83e u83e sr cr1 cr3 58 := ⟨_, rfl, Or.inl rfl⟩
set_option maxRecDepth 100000 in
set_option maxHeartbeats 2000000 in
theorem w37_59 : P37 cy h0 q5 u5 q16 u16 q28 q35 s1 s2 s3 s4 q46 c1 c2 c3 q83a u83a q83b u83b q83c u83c q83d u83d q83e u83e sr cr1 cr3 59 := ⟨_, rfl, Or.inl rfl⟩
set_option maxRecDepth 100000 in
set_option maxHeartbeats 2000000 in
theorem w37_60 : P37 cy h0 q5 u5 q16 u16 q28 q35 s1 s2 s3 s4 q46 c1 c2 c3 q83a u83a q83b u83b q83c u83c q83d u83d q83e u83e sr cr1 cr3 60 := ⟨_, rfl, Or.inl rfl⟩
set_option maxRecDepth 100000 in
set_option maxHeartbeats 2000000 in
theorem w37_61 : P37 cy h0 q5 u5 q16 u16 q28 q35 s1 s2 s3 s4 q46 c1 c2 c3 q83a u83a q83b u83b q83c u83c q83d u83d q83e u83e sr cr1 cr3 61 := ⟨_, rfl, Or.inl rfl⟩
set_option maxRecDepth 100000 in
set_option maxHeartbeats 2000000 in
theorem w37_62 : P37 cy h0 q5 u5 q16 u16 q28 q35 s1 s2 s3 s4 q46 c1 c2 c3 q83a u83a q83b u83b q83c u83c q83d u83d q83e u83e sr cr1 cr3 62 := ⟨_, rfl, Or.inl rfl⟩
set_option maxRecDepth 100000 in
set_option maxHeartbeats 2000000 in
theorem w37_63 : P37 cy h0 q5 u5 q16 u16 q28 q35 s1 s2 s3 s4 q46 c1 c2 c3 q83a u83a q83b u83b q83c u83c q83d u83d q83e u83e sr cr1 cr3 63 := ⟨_, rfl, Or.inl rfl⟩
set_option maxRecDepth 100000 in
set_option maxHeartbeats 2000000 in
theorem w37_64 : P37 cy h0 q5 u5 q16 u16 q28 q35 s1 s2 s3 s4 q46 c1 c2 c3 q83a u83a q83b u83b q83c u83c q83d u83d q83e u83e sr cr1 cr3 64 := ⟨_, rfl, Or.inl rfl⟩
set_option maxRecDepth 100000 in
set_option maxHeartbeats 2000000 in
theorem w37_65 : P37 cy h0 q5 u5 q16 u16 q28 q35 s1 s2 s3 s4 q46 c1 c2 c3 q83a u83a q83b u83b q83c u83c q83d u83d q83e u83e sr cr1 cr3 65 := ⟨_, rfl, Or.inl rfl⟩
set_option maxRecDepth 100000 in
set_option maxHeartbeats 2000000 in
theorem w37_66 : P37 cy h0 q5 u5 q16 u16 q28 q35 s1 s2 s3 s4 q46 c1 c2 c3 q83a u83a q83b u83b q83c u83c q83d u83d q83e u83e sr cr1 cr3 66 := ⟨_, rfl, Or.inl rfl⟩
set_option maxRecDepth 100000 in
set_option maxHeartbeats 2000000 in
theorem w37_67 : P37 cy h0 q5 u5 q16 u16 q28 q35 s1 s2 s3 s4 q46 c1 c2 c3 q83a u83a q83b u83b q83c u83c q83d u83d q83e u83e sr cr1 cr3 67 := ⟨_, rfl, Or.inl rfl⟩
set_option maxRecDepth 100000 in
set_option maxHeartbeats 2000000 in
theorem w37_68 : P37 cy h0 q5 u5 q16 u16 q28 q35 s1 s2 s3 s4 q46 c1 c2 c3 q83a u83a q83b u83b q83c u83c q83d u83d q83e u83e sr cr1 cr3 68 := ⟨_, rfl, Or.inl rfl⟩
set_option maxRecDepth 100000 in
set_option maxHeartbeats 2000000 in
theorem w37_69 : P37 cy h0 q5 u5 q16 u16 q28 q35 s1 s2 s3 s4 q46 c1 c2 c3 q83a u83a q83b u83b q83c u83c q83d u83d q83e u83e sr cr1 cr3 69 := ⟨_, rfl, Or.inl rfl⟩
set_option maxRecDepth 100000 in
set_option maxHeartbeats 2000000 in
theorem w37_70 : P37 cy h0 q5 u5 q16 u16 q28 q35 s1 s2 s3 s4 q46 c1 c2 c3 q83a u83a q83b u83b q83c u83c q83d u83d q83e u83e sr cr1 cr3 70 := ⟨_, rfl, Or.inl rfl⟩
set_option maxRecDepth 100000 in
set_option maxHeartbeats 2000000 in
theorem w37_71 : P37 cy h0 q5 u5 q16 u16 q28 q35 s1 s2 s3 s4 q46 c1 c2 c3 q83a u83a q83b u83b q83c u83c q83d u83d q83e u83e sr cr1 cr3 71 := ⟨_, rfl, Or.inr ⟨cy 2, 17, _, _, rfl, rfl, fun k hk => by rw [if_pos hk]; refine congrArg some ?_; unfold ad37; rw [if_neg (by omega), if_neg (by omega), if_pos (by omega), Nat.add_sub_cancel_left]⟩⟩
set_option maxRecDepth 100000 in
set_option maxHeartbeats 2000000 in
theorem w37_72 : P37 cy h0 q5 u5 q16 u16 q28 q35 s1 s2 s3 s4 q46 c1 c2 c3 q83a u83a q83b u83b q83c u83c q83d u83d q83e u83e sr cr1 cr3 72 := ⟨_, rfl, Or.inl rfl⟩
set_option maxRecDepth 100000 in
set_option maxHeartbeats 2000000 in
theorem w37_73 : P37 cy h0 q5 u5 q16 u16 q28 q35 s1 s2 s3 s4 q46 c1 c2 c3 q83a u83a q83b u83b q83c u83c q83d u83d q83e u83e sr cr1 cr3 73 := ⟨_, rfl, Or.inl rfl⟩
set_option maxRecDepth 100000 in
set_option maxHeartbeats 2000000 in
theorem w37_74 : P37 cy h0 q5 u5 q16 u16 q28 q35 s1 s2 s3 s4 q46 c1 c2 c3 q83a u83a q83b u83b q83c u83c q83d u83d q83e u83e sr cr1 cr3 74 := ⟨_, rfl, Or.inl rfl⟩
set_option maxRecDepth 100000 in
set_option maxHeartbeats 2000000 in
theorem w37_75 : P37 cy h0 q5 u5 q16 u16 q28 q35 s1 s2 s3 s4 q46 c1 c2 c3 q83a u83a q83b u83b q83c u83c q83d u83d q83e u83e sr cr1 cr3 75 := ⟨_, rfl, Or.inl rfl⟩
set_option maxRecDepth 100000 in
set_option maxHeartbeats 2000000 in
theorem w37_76 : P37 cy h0 q5 u5 q16 u16 q28 q35 s1 s2 s3 s4 q46 c1 c2 c3 q83a u83a q83b u83b q83c u83c q83d u83d q83e u83e sr cr1 cr3 76 := ⟨_, rfl, Or.inl rfl⟩
set_option maxRecDepth 100000 in
set_option maxHeartbeats 2000000 in
theorem w37_77 : P37 cy h0 q5 u5 q16 u16 q28 q35 s1 s2 s3 s4 q46 c1 c2 c3 q83a u83a q83b u83b q83c u83c q83d u83d q83e u83e sr cr1 cr3 77 := ⟨_, rfl, Or.inl rfl⟩
set_option maxRecDepth 100000 in
set_option maxHeartbeats 2000000 in
theorem w37_78 : P37 cy h0 q5 u5 q16 u16 q28 q35 s1 s2 s3 s4 q46 c1 c2 c3 q83a u83a q83b u83b q83c u83c q83d u83d q83e u83e sr cr1 cr3 78 := ⟨_, rfl, Or.inl rfl⟩
set_option maxRecDepth 100000 in
set_option maxHeartbeats 2000000 in
theorem w37_79 : P37 cy h0 q5 u5 q16 u16 q28 q35 s1 s2 s3 s4 q46 c1 c2 c3 q83a u83a q83b u83b q83c u83c q83d u83d q83e u83e sr cr1 cr3 79 := ⟨_, rfl, Or.inl rfl⟩
set_option maxRecDepth 100000 in
set_option maxHeartbeats 2000000 in
theorem w37_80 : P37 cy h0 q5 u5 q16 u16 q28 q35 s1 s2 s3 s4 q46 c1 c2 c3 q83a u83a q83b u83b q83c u83c q83d u83d q83e u83e sr cr1 cr3 80 := ⟨_, rfl, Or.inl rfl⟩
set_option maxRecDepth 100000 in
set_option maxHeartbeats 2000000 in
theorem w37_81 : P37 cy h0 q5 u5 q16 u16 q28 q35 s1 s2 s3 s4 q46 c1 c2 c3 q83a u83a q83b u83b q83c u83c q83d u83d q83e u83e sr cr1 cr3 81 := ⟨_, rfl, Or.inl rfl⟩
set_option maxRecDepth 100000 in
set_option maxHeartbeats 2000000 in
theorem w37_82 : P37 cy h0 q5 u5 q16 u16 q28 q35 s1 s2 s3 s4 q46 c1 c2 c3 q83a u83a q83b u83b q83c u83c q83d u83d q83e u83e sr cr1 cr3 82 := ⟨_, rfl, Or.inl rfl⟩
set_option maxRecDepth 100000 in
set_option maxHeartbeats 2000000 in
theorem w37_83 : P37 cy h0 q5 u5 q16 u16 q28 q35 s1 s2 s3 s4 q46 c1 c2 c3 q83a u83a q83b u83b q83c u83c q83d u83d q83e u83e sr cr1 cr3 83 := ⟨_, rfl, Or.inl rfl⟩
set_option maxRecDepth 100000 in
set_option maxHeartbeats 2000000 in
theorem w37_84 : P37 cy h0 q5 u5 q16 u16 q28 q35 s1 s2 s3 s4 q46 c1 c2 c3 q83a u83a q83b u83b q83c u83c q83d u83d q83e u83e sr cr1 cr3 84 := ⟨_, rfl, Or.inl rfl⟩
set_option maxRecDepth 100000 in
set_option maxHeartbeats 2000000 in
theorem w37_85 : P37 cy h0 q5 u5 q16 u16 q28 q35 s1 s2 s3 s4 q46 c1 c2 c3 q83a u83a q83b u83b q83c u83c q83d u83d q83e u83e sr cr1 cr3 85 := ⟨_, rfl, Or.inl rfl⟩
set_option maxRecDepth 100000 in
set_option maxHeartbeats 2000000 in
theorem w37_86 : P37 cy h0 q5 u5 q16 u16 q28 q35 s1 s2 s3 s4 q46 c1 c2 c3 q83a u83a q83b u83b q83c u83c q83d u83d q83e u83e sr cr1 cr3 86 := ⟨_, rfl, Or.inl rfl⟩
set_option maxRecDepth 100000 in
set_option maxHeartbeats 2000000 in
theorem w37_87 : P37 cy h0 q5 u5 q16 u16 q28 q35 s1 s2 s3 s4 q46 c1 c2 c3 q83a u83a q83b u83b q83c u83c q83d u83d q83e u83e sr cr1 cr3 87 := ⟨_, rfl, Or.inl rfl⟩
set_option maxRecDepth 100000 in
set_option maxHeartbeats 2000000 in
theorem w37_88 : P37 cy h0 q5 u5 q16 u16 q28 q35 s1 s2 s3 s4 q46 c1 c2 c3 q83a u83a q83b u83b q83c u83c q83d u83d q83e u83e sr cr1 cr3 88 := ⟨_, rfl, Or.inl rfl⟩
theorem a37_10 : AllB (P37 cy h0 q5 u5 q16 u16 q28 q35 s1 s2 s3 s4 q46 c1 c2 c3 q83a u83a q83b u83b q83c u83c q83d u83d q83e u83e sr cr1 cr3) 10 := ⟨⟨⟨⟨⟨⟨⟨⟨⟨⟨trivial, w37_0 cy h0 q5 u5 q16 u16 q28 q35 s1 s2 s3 s4 q46 c1 c2 c3 q83a u83a q83b u83b q83c u83c q83d u83d q83e u83e sr cr1 cr3⟩, w37_1 cy h0 q5 u5 q16 u16 q28 q35 s1 s2 s3 s4 q46 c1 c2 c3 q83a u83a q83b u83b q83c u83c q83d u83d q83e u83e sr cr1 cr3⟩, w37_2 cy h0 q5 u5 q16 u16 q28 q35 s1 s2 s3 s4 q46 c1 c2 c3 q83a u83a q83b u83b q83c u83c q83d u83d q83e u83e sr cr1 cr3⟩, w37_3 cy h0 q5 u5 q16 u16 q28 q35 s1 s2 s3 s4 q46 c1 c2 c3 q83a u83a q83b u83b q83c u83c q83d u83d q83e u83e sr cr1 cr3⟩, w37_4 cy h0 q5 u5 q16 u16 q28 q35 s1 s2 s3 s4 q46 c1 c2 c3 q83a u83a q83b u83b q83c u83c q83d u83d q83e u83e sr cr1 cr3⟩, w37_5 cy h0 q5 u5 q16 u16 q28 q35 s1 s2 s3 s4 q46 c1 c2 c3 q83a u83a q83b u83b q83c u83c q83d u83d q83e u83e sr cr1 cr3⟩, w37_6 cy h0 q5 u5 q16 u16 q28 q35 s1 s2 s3 s4 q46 c1 c2 c3 q83a u83a q83b u83b q83c u83c q83d u83d q83e u83e sr cr1 cr3⟩, w37_7 cy h0 q5 u5 q16 u16 q28 q35 s1 s2 s3 s4 q46 c1 c2 c3 q83a u83a q83b u83b q83c u83c q83d u83d q83e u83e sr cr1 cr3⟩, w37_8 cy h0 q5 u5 q16 u16 q28 q35 s1 s2 s3 s4 q46 c1 c2 c3 q83a u83a q83b u83b q83c u83c q83d u83d q83e u83e sr cr1 cr3⟩, w37_9 cy h0 q5 u5 q16 u16 q28 q35 s1 s2 s3 s4 q46 c1 c2 c3 q83a u83a q83b u83b q83c u83c q83d u83d q83e u83e sr cr1 cr3⟩
theorem a37_20 : AllB (P37 cy h0 q5 u5 q16 u16 q28 q35 s1 s2 s3 s4 q46 c1 c2 c3 q83a u83a q83b u83b q83c u83c q83d u83d q83e u83e sr cr1 cr3) 20 := ⟨⟨⟨⟨⟨⟨⟨⟨⟨⟨a37_10 cy h0 q5 u5 q16 u16 q28 q35 s1 s2 s3 s4 q46 c1 c2 c3 q83a u83a q83b u83b q83c u83c q83d u83d q83e u83e sr cr1 cr3, w37_10 cy h0 q5 u5 q16 u16 q28 q35 s1 s2 s3 s4 q46 c1 c2 c3 q83a u83a q83b u83b q83c u83c q83d u83d q83e u83e sr cr1 cr3⟩, w37_11 cy h0 q5 u5 q16 u16 q28 q35 s1 s2 s3 s4 q46 c1 c2 c3 q83a u83a q83b u83b q83c u83c q83d u83d q83e u83e sr cr1 cr3⟩, w37_12 cy h0 q5 u5 q16 u16 q28 q35 s1 s2 s3 s4 q46 c1 c2 c3 q83a u83a q83b u83b q83c u83c q83d u83d q83e u83e sr cr1 cr3⟩, w37_13 cy h0 q5 u5 q16 u16 q28 q35 s1 s2 s3 s4 q46 c1 c2 c3 q83a u83a q83b u83b q83c u83c q83d u83d q83e u83e sr cr1 cr3⟩, w37_14 cy h0 q5 u5 q16 u16 q28 q35 s1 s2 s3 s4 q46 c1 c2 c3 q83a u83a q83b u83b q83c u83c q83d u83d q83e u83e sr cr1 cr3⟩, w37_15 cy h0 q5 u5 q16 u16 q28 q35 s1 s2 s3 s4 q46 c1 c2 c3 q83a u83a q83b u83b q83c u83c q83d u83d q83e u83e sr cr1 cr3⟩, w37_16 cy h0 q5 u5 q16 u16 q28 q35 s1 s2 s3 s4 q46 c1 c2 c3 q83a u83a q83b u83b q83c u83c q83d u83d q83e u83e sr cr1 cr3⟩, w37_17 cy h0 q5 u5 q16 u16 q28 q35 s1 s2 s3 s4 q46 c1 c2 c3 q83a u83a q83b u83b q83c u83c q83d u83d q83e u83e sr cr1 cr3⟩, w37_18 cy h0 q5 u5 q16 u16 q28 q35 s1 s2 s3 s4 q46 c1 c2 c3 q83a u83a q83b u83b q83c u83c q83d u83d q83e u83e sr cr1 cr3⟩, w37_19 cy h0 q5 u5 q16 u16 q28 q35 s1 s2 s3 s4 q46 c1 c2 c3 q83a u83a q83b u83b q83c u83c q83d u83d q83e u83e sr cr1 cr3⟩
theorem a37_30 : AllB (P37 cy h0 q5 u5 q16 u16 q28 q35 s1 s2 s3 s4 q46 c1 c2 c3 q83a u83a q83b u83b q83c u83c q83d u83d q83e u83e sr cr1 cr3) 30 := ⟨⟨⟨⟨⟨⟨⟨⟨⟨⟨a37_20 cy h0 q5 u5 q16 u16 q28 q35 s1 s2 s3 s4 q46 c1 c2 c3 q83a u83a q83b u83b q83c u83c q83d u83d q83e u83e sr cr1 cr3, w37_20 cy h0 q5 u5 q16 u16 q28 q35 s1 s2 s3 s4 q46 c1 c2 c3 q83a u83a q83b u83b q83c u83c q83d u83d q83e u83e sr cr1 cr3⟩, w37_21 cy h0 q5 u5 q16 u16 q28 q35 s1 s2 s3 s4 q46 c1 c2 c3 q83a u83a q83b u83b q83c u83c q83d u83d q83e u83e sr cr1 cr3⟩, w37_22 cy h0 q5 u5 q16 u16 q28 q35 s1 s2 s3 s4 q46 c1 c2 c3 q83a u83a q83b u83b q83c u83c q83d u83d q83e u83e sr cr1 cr3⟩, w37_23 cy h0 q5 u5 q16 u16 q28 q35 s1 s2 s3 s4 q46 c1 c2 c3 q83a u83a q83b u83b q83c u83c q83d u83d q83e u83e sr cr1 cr3⟩, w37_24 cy h0 q5 u5 q16 u16 q28 q35 s1 s2 s3 s4 q46 c1 c2 c3 q83a u83a q83b u83b q83c u83c q83d u83d q83e u83e sr cr1 cr3⟩, w37_25 cy h0 q5 u5 q16 u16 q28 q35 s1 s2 s3 s4 q46 c1 c2 c3 q83a u83a q83b u83b q83c u83c q83d u83d q83e u83e sr cr1 cr3⟩, w37_26 cy h0 q5 u5 q16 u16 q28 q35 s1 s2 s3 s4 q46 c1 c2 c3 q83a u83a q83b u83b q83c u83c q83d u83d q83e u83e sr cr1 cr3⟩, w37_27 cy h0 q5 u5 q16 u16 q28 q35 s1 s2 s3 s4 q46 c1 c2 c3 q83a u83a q83b u83b q83c u83c q83d u83d q83e u83e sr cr1 cr3⟩, w37_28 cy h0 q5 u5 q16 u16 q28 q35 s1 s2 s3 s4 q46 c1 c2 c3 q83a u83a q83b u83b q83c u83c q83d u83d q83e u83e sr cr1 cr3⟩, w37_29 cy h0 q5 u5 q16 u16 q28 q35 s1 s2 s3 s4 q46 c1 c2 c3 q83a u83a q83b u83b q83c u83c q83d u83d q83e u83e sr cr1 cr3⟩
theorem a37_40 : AllB (P37 cy h0 q5 u5 q16 u16 q28 q35 s1 s2 s3 s4 q46 c1 c2 c3 q83a u83a q83b u83b q83c u83c q83d u83d q83e u83e sr cr1 cr3) 40 := ⟨⟨⟨⟨⟨⟨⟨⟨⟨⟨a37_30 cy h0 q5 u5 q16 u16 q28 q35 s1 s2 s3 s4 q46 c1 c2 c3 q83a u83a q83b u83b q83c u83c q83d u83d q83e u83e sr cr1 cr3, w37_30 cy h0 q5 u5 q16 u16 q28 q35 s1 s2 s3 s4 q46 c1 c2 c3 q83a u83a q83b u83b q83c u83c q83d u83d q83e u83e sr cr1 cr3⟩, w37_31 cy h0 q5 u5 q16 u16 q28 q35 s1 s2 s3 s4 q46 c1 c2 c3 q83a u83a q83b u83b q83c u83c q83d u83d q83e u83e sr cr1 cr3⟩, w37_32 cy h0 q5 u5 q16 u16 q28 q35 s1 s2 s3 s4 q46 c1 c2 c3 q83a u83a q83b u83b q83c u83c q83d u83d q83e u83e sr cr1 cr3⟩, w37_33 cy h0 q5 u5 q16 u16 q28 q35 s1 s2 s3 s4 q46 c1 c2 c3 q83a u83a q83b u83b q83c u83c q83d u83d q83e u83e sr cr1 cr3⟩, w37_34 cy h0 q5 u5 q16 u16 q28 q35 s1 s2 s3 s4 q46 c1 c2 c3 q83a u83a q83b u83b q83c u83c q83d u83d q83e u83e sr cr1 cr3⟩, w37_35 cy h0 q5 u5 q16 u16 q28 q35 s1 s2 s3 s4 q46 c1 c2 c3 q83a u83a q83b u83b q83c u83c q83d u83d q83e u83e sr cr1 cr3⟩, w37_36 cy h0 q5 u5 q16 u16 q28 q35 s1 s2 s3 s4 q46 c1 c2 c3 q83a u83a q83b u83b q83c u83c q83d u83d q83e u83e sr cr1 cr3⟩, w37_37 cy h0 q5 u5 q16 u16 q28 q35 s1 s2 s3 s4 q46 c1 c2 c3 q83a u83a q83b u83b q83c u83c q83d u83d q83e u83e sr cr1 cr3⟩, w37_38 cy h0 q5 u5 q16 u16 q28 q35 s1 s2 s3 s4 q46 c1 c2 c3 q83a u83a q83b u83b q83c u83c q83d u83d q83e u83e sr cr1 cr3⟩, w37_39 cy h0 q5 u5 q16 u16 q28 q35 s1 s2 s3 s4 q46 c1 c2 c3 q83a u83a q83b u83b q83c u83c q83d u83d q83e u83e sr cr1 cr3⟩
theorem a37_50 : AllB (P37 cy h0 q5 u5 q16 u16 q28 q35 s1 s2 s3 s4 q46 c1 c2 c3 q83a u83a q83b u83b q83c u83c q83d u83d q83e u83e sr cr1 cr3) 50 := ⟨⟨⟨⟨⟨⟨⟨⟨⟨⟨a37_40 cy h0 q5 u5 q16 u16 q28 q35 s1 s2 s3 s4 q46 c1 c2 c3 q83a u83a q83b u83b q83c u83c q83d u83d q83e u83e sr cr1 cr3, w37_40 cy h0 q5 u5 q16 u16 q28 q35 s1 s2 s3 s4 q46 c1 c2 c3 q83a u83a q83b u83b q83c u83c q83d u83d q83e u83e sr cr1 cr3⟩, w37_41 cy h0 q5 u5 q16 u16 q28 q35 s1 s2 s3 s4 q46 c1 c2 c3 q83a u83a q83b u83b q83c u83c q83d u83d q83e u83e sr cr1 cr3⟩, w37_42 cy h0 q5 u5 q16 u16 q28 q35 s1 s2 s3 s4 q46 c1 c2 c3 q83a u83a q83b u83b q83c u83c q83d u83d q83e u83e sr cr1 cr3⟩, w37_43 cy h0 q5 u5 q16 u16 q28 q35 s1 s2 s3 s4 q46 c1 c2 c3 q83a u83a q83b u83b q83c u83c q83d u83d q83e u83e sr cr1 cr3⟩, w37_44 cy h0 q5 u5 q16 u16 q28 q35 s1 s2 s3 s4 q46 c1 c2 c3 q83a u83a q83b u83b q83c u83c q83d u83d q83e u83e sr cr1 cr3⟩, w37_45 cy h0 q5 u5 q16 u16 q28 q35 s1 s2 s3 s4 q46 c1 c2 c3 q83a u83a q83b u83b q83c u83c q83d u83d q83e u83e sr cr1 cr3⟩, w37_46 cy h0 q5 u5 q16 u16 q28 q35 s1 s2 s3 s4 q46 c1 c2 c3 q83a u83a q83b u83b q83c u83c q83d u83d q83e u83e sr cr1 cr3⟩, w37_47 cy h0 q5 u5 q16 u16 q28 q35 s1 s2 s3 s4 q46 c1 c2 c3 q83a u83a q83b u83b q83c u83c q83d u83d q83e u83e sr cr1 cr3⟩, w37_48 cy h0 q5 u5 q16 u16 q28 q35 s1 s2 s3 s4 q46 c1 c2 c3 q83a u83a q83b u83b q83c u83c q83d u83d q83e u83e sr cr1 cr3⟩, w37_49 cy h0 q5 u5 q16 u16 q28 q35 s1 s2 s3 s4 q46 c1 c2 c3 q83a u83a q83b u83b q83c u83c q83d u83d q83e u83e sr cr1 cr3⟩
theorem a37_60 : AllB (P37 cy h0 q5 u5 q16 u16 q28 q35 s1 s2 s3 s4 q46 c1 c2 c3 q83a u83a q83b u83b q83c u83c q83d u83d q83e u83e sr cr1 cr3) 60 := ⟨⟨⟨⟨⟨⟨⟨⟨⟨⟨a37_50 cy h0 q5 u5 q16 u16 q28 q35 s1 s2 s3 s4 q46 c1 c2 c3 q83a u83a q83b u83b q83c u83c q83d u83d q83e u83e sr cr1 cr3, w37_50 cy h0 q5 u5 q16 u16 q28 q35 s1 s2 s3 s4 q46 c1 c2 c3 q83a u83a q83b u83b q83c u83c q83d u83d q83e u83e sr cr1 cr3⟩, w37_51 cy h0 q5 u5 q16 u16 q28 q35 s1 s2 s3 s4 q46 c1 c2 c3 q83a u83a q83b u83b q83c u83c q83d u83d q83e u83e sr cr1 cr3⟩, w37_52 cy h0 q5 u5 q16 u16 q28 q35 s1 s2 s3 s4 q46 c1 c2 c3 q83a u83a q83b u83b q83c u83c q83d u83d q83e u83e sr cr1 cr3⟩, w37_53 cy h0 q5 u5 q16 u16 q28 q35 s1 s2 s3 s4 q46 c1 c2 c3 q83a u83a q83b u83b q83c u83c q83d u83d q83e u83e sr cr1 cr3⟩, w37_54 cy h0 q5 u5 q16 u16 q28 q35 s1 s2 s3 s4 q46 c1 c2 c3 q83a u83a q83b u83b q83c u83c q83d u83d q83e u83e sr cr1 cr3⟩, w37_55 cy h0 q5 u5 q16 u16 q28 q35 s1 s2 s3 s4 q46 c1 c2 c3 q83a u83a q83b u83b q83c u83c q83d u83d q83e u83e sr cr1 cr3⟩, w37_56 cy h0 q5 u5 q16 u16 q28 q35 s1 s2 s3 s4 q46 c1 c2 c3 q83a u83a q83b u83b q83c u83c q83d u83d q83e u83e sr cr1 cr3⟩, w37_57 cy h0 q5 u5 q16 u16 q28 q35 s1 s2 s3 s4 q46 c1 c2 c3 q83a u83a q83b u83b q83c u83c q83d u83d q83e u83e sr cr1 cr3⟩, w37_58 cy h0 q5 u5 q16 u16 q28 q35 s1 s2 s3 s4 q46 c1 c2 c3 q83a u83a q83b u83b q83c u83c q83d u83d q83e u83e sr cr1 cr3⟩, w37_59 cy h0 q5 u5 q16 u16 q28 q35 s1 s2 s3 s4 q46 c1 c2 c3 q83a u83a q83b u83b q83c u83c q83d u83d q83e u83e sr cr1 cr3⟩
theorem a37_70 : AllB (P37 cy h0 q5 u5 q16 u16 q28 q35 s1 s2 s3 s4 q46 c1 c2 c3 q83a u83a q83b u83b q83c u83c q83d u83d q83e u83e sr cr1 cr3) 70 := ⟨⟨⟨⟨⟨⟨⟨⟨⟨⟨a37_60 cy h0 q5 u5 q16 u16 q28 q35 s1 s2 s3 s4 q46 c1 c2 c3 q83a u83a q83b u83b q83c u83c q83d u83d q83e u83e sr cr1 cr3, w37_60 cy h0 q5 u5 q16 u16 q28 q35 s1 s2 s3 s4 q46 c1 c2 c3 q83a u83a q83b u83b q83c u83c q83d u83d q83e u83e sr cr1 cr3⟩, w37_61 cy h0 q5 u5 q16 u16 q28 q35 s1 s2 s3 s4 q46 c1 c2 c3 q83a u83a q83b u83b q83c u83c q83d u83d q83e u83e sr cr1 cr3⟩, w37_62 cy h0 q5 u5 q16 u16 q28 q35 s1 s2 s3 s4 q46 c1 c2 c3 q83a u83a q83b u83b q83c u83c q83d u83d q83e u83e sr cr1 cr3⟩, w37_63 cy h0 q5 u5 q16 u16 q28 q35 s1 s2 s3 s4 q46 c1 c2 c3 q83a u83a q83b u83b q83c u83c q83d u83d q83e u83e sr cr1 cr3⟩, w37_64 cy h0 q5 u5 q16 u16 q28 q35 s1 s2 s3 s4 q46 c1 c2 c3 q83a u83a q83b u83b q83c u83c q83d u83d q83e u83e sr cr1 cr3⟩, w37_65 cy h0 q5 u5 q16 u16 q28 q35 s1 s2 s3 s4 q46 c1 c2 c3 q83a u83a q83b u83b q83c u83c q83d u83d q83e u83e sr cr1 cr3⟩, w37_66 cy h0 q5 u5 q16 u16 q28 q35 s1 s2 s3 s4 q46 c1 c2 c3 q83a u83a q83b u83b q83c u83c q83d u83d q83e u83e sr cr1 cr3⟩, w37_67 cy h0 q5 u5 q16 u16 q28 q35 s1 s2 s3 s4 q46 c1 c2 c3 q83a u83a q83b u83b q83c u83c q83d u83d q83e u83e sr cr1 cr3⟩, w37_68 cy h0 q5 u5 q16 u16 q28 q35 s1 s2 s3 s4 q46 c1 c2 c3 q83a u83a q83b u83b q83c u83c q83d u83d q83e u83e sr cr1 cr3⟩, w37_69 cy h0 q5 u5 q16 u16 q28 q35 s1 s2 s3 s4 q46 c1 c2 c3 q83a u83a q83b u83b q83c u83c q83d u83d q83e u83e sr cr1 cr3⟩
theorem a37_80 : AllB (P37 cy h0 q5 u5 q16 u16 q28 q35 s1 s2 s3 s4 q46 c1 c2 c3 q83a u83a q83b u83b q83c u83c q83d u83d q83e u83e sr cr1 cr3) 80 := ⟨⟨⟨⟨⟨⟨⟨⟨⟨⟨a37_70 cy h0 q5 u5 q16 u16 q28 q35 s1 s2 s3 s4 q46 c1 c2 c3 q83a u83a q83b u83b q83c u83c q83d u83d q83e u83e sr cr1 cr3, w37_70 cy h0 q5 u5 q16 u16 q28 q35 s1 s2 s3 s4 q46 c1 c2 c3 q83a u83a q83b u83b q83c u83c q83d u83d q83e u83e sr cr1 cr3⟩, w37_71 cy h0 q5 u5 q16 u16 q28 q35 s1 s2 s3 s4 q46 c1 c2 c3 q83a u83a q83b u83b q83c u83c q83d u83d q83e u83e sr cr1 cr3⟩, w37_72 cy h0 q5 u5 q16 u16 q28 q35 s1 s2 s3 s4 q46 c1 c2 c3 q83a u83a q83b u83b q83c u83c q83d u83d q83e u83e sr cr1 cr3⟩, w37_73 cy h0 q5 u5 q16 u16 q28 q35 s1 s2 s3 s4 q46 c1 c2 c3 q83a u83a q83b u83b q83c u83c q83d u83d q83e u83e sr cr1 cr3⟩, w37_74 cy h0 q5 u5 q16 u16 q28 q35 s1 s2 s3 s4 q46 c1 c2 c3 q83a u83a q83b u83b q83c u83c q83d u83d q83e u83e sr cr1 cr3⟩, w37_75 cy h0 q5 u5 q16 u16 q28 q35 s1 s2 s3 s4 q46 c1 c2 c3 q83a u83a q83b u83b q83c u83c q83d u83d q83e u83e sr cr1 cr3⟩, w37_76 cy h0 q5 u5 q16 u16 q28 q35 s1 s2 s3 s4 q46 c1 c2 c3 q83a u83a q83b u83b q83c u83c q83d u83d q83e u83e sr cr1 cr3⟩, w37_77 cy h0 q5 u5 q16 u16 q28 q35 s1 s2 s3 s4 q46 c1 c2 c3 q83a u83a q83b u83b q83c u83c q83d u83d q83e u83e sr cr1 cr3⟩, w37_78 cy h0 q5 u5 q16 u16 q28 q35 s1 s2 s3 s4 q46 c1 c2 c3 q83a u83a q83b u83b q83c u83c q83d u83d q83e u83e sr cr1 cr3⟩, w37_79 cy h0 q5 u5 q16 u16 q28 q35 s1 s2 s3 s4 q46 c1 c2 c3 q83a u83a q83b u83b q83c u83c q83d u83d q83e u83e sr cr1 cr3⟩
theorem a37_89 : AllB (P37 cy h0 q5 u5 q16 u16 q28 q35 s1 s2 s3 s4 q46 c1 c2 c3 q83a u83a q83b u83b q83c u83c q83d u83d q83e u83e sr cr1 cr3) 89 := ⟨⟨⟨⟨⟨⟨⟨⟨⟨a37_80 cy h0 q5 u5 q16 u16 q28 q35 s1 s2 s3 s4 q46 c1 c2 c3 q83a u83a q83b u83b q83c u83c q83d u83d q83e u83e sr cr1 cr3, w37_80 cy h0 q5 u5 q16 u16 q28 q35 s1 s2 s3 s4 q46 c1 c2 c3 q83a u83a q83b u83b q83c u83c q83d u83d q83e u83e sr cr1 cr3⟩, w37_81 cy h0 q5 u5 q16 u16 q28 q35 s1 s2 s3 s4 q46 c1 c2 c3 q83a u83a q83b u83b q83c u83c q83d u83d q83e u83e sr cr1 cr3⟩, w37_82 cy h0 q5 u5 q16 u16 q28 q35 s1 s2 s3 s4 q46 c1 c2 c3 q83a u83a q83b u83b q83c u83c q83d u83d q83e u83e sr cr1 cr3⟩, w37_83 cy h0 q5 u5 q16 u16 q28 q35 s1 s2 s3 s4 q46 c1 c2 c3 q83a u83a q83b u83b q83c u83c q83d u83d q83e u83e sr cr1 cr3⟩, w37_84 cy h0 q5 u5 q16 u16 q28 q35 s1 s2 s3 s4 q46 c1 c2 c3 q83a u83a q83b u83b q83c u83c q83d u83d q83e u83e sr cr1 cr3⟩, w37_85 cy h0 q5 u5 q16 u16 q28 q35 s1 s2 s3 s4 q46 c1 c2 c3 q83a u83a q83b u83b q83c u83c q83d u83d q83e u83e sr cr1 cr3⟩, w37_86 cy h0 q5 u5 q16 u16 q28 q35 s1 s2 s3 s4 q46 c1 c2 c3 q83a u83a q83b u83b q83c u83c q83d u83d q83e u83e sr cr1 cr3⟩, w37_87 cy h0 q5 u5 q16 u16 q28 q35 s1 s2 s3 s4 q46 c1 c2 c3 q83a u83a q83b u83b q83c u83c q83d u83d q83e u83e sr cr1 cr3⟩, w37_88 cy h0 q5 u5 q16 u16 q28 q35 s1 s2 s3 s4 q46 c1 c2 c3 q83a u83a q83b u83b q83c u83c q83d u83d q83e u83e sr cr1 cr3⟩
theorem wAll_at : ∀ i, i < 89 → ∃ e, (wAll cy h0 q5 u5 q16 u16 q28 q35 s1 s2 s3 s4 q46 c1 c2 c3 q83a u83a q83b u83b q83c u83c q83d u83d q83e u83e sr cr1 cr3)[pi37 i]? = some ((ad37 h0 q5 u5 q16 u16 q28 q35 s1 s2 s3 s4 q46 c1 c2 c3 q83a u83a q83b u83b q83c u83c q83d u83d q83e u83e sr cr1 cr3) i, e) ∧ Eqv e (ent (ad37 h0 q5 u5 q16 u16 q28 q35 s1 s2 s3 s4 q46 c1 c2 c3 q83a u83a q83b u83b q83c u83c q83d u83d q83e u83e sr cr1 cr3) cy i (s0w i)) := fun i hi => by
  rw [wAll_lit]
  exact (a37_89 cy h0 q5 u5 q16 u16 q28 q35 s1 s2 s3 s4 q46 c1 c2 c3 q83a u83a q83b u83b q83c u83c q83d u83d q83e u83e sr cr1 cr3).at i hi
end W37
