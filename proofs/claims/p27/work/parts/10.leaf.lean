/-! ===== the smallest methods ===== -/
set_option maxHeartbeats 4000000 in
set_option maxRecDepth 100000 in
theorem c_X2_runCount (l : Launch) (D : va_G) (cy : Nat → ClassId) (ad : Nat → Nat) (hDis : Dis ad) (σ : sS) {n : Nat} {w : Nat → Nat} (hS : Sp σ n w) : Mi l yX2_runCount wsX2_runCount 0 0 D cy ad [.ref (ad 1)] σ (fun r τ => r = nI (rc n) ∧ σ = τ) := by
  have w0 : Cond.fieldLink RX2 15 "Tonguetell$Spelling" "length" "I" ∈ wsX2_runCount := by decide +kernel
  have w1 : ∀ w ∈ wsX20, w ∈ wsX2_runCount := by decide +kernel
  obtain ⟨hs1, hs2, hs3⟩ := hS
  refine Mi.of (cc := cX2_runCount) (nL := 1) (own := RX2) hDis (by decide) rfl [(0, .ref (ad 1))] rfl (Nat.le_of_ble_eq_true rfl) rfl ?_
  intro p e s m args below meth c A Q C hret
  refine tg_aload_n C dX2_runCount_0 1 rfl rfl 0 rfl ?_
  refine tg_get (T := TX2) (N := 2) (Cn := RX2) C 1 (by decide) (e_1 ad cy _) rfl w1 1 (by decide) w0 rfl rfl dX2_runCount_1 4 rfl ?_
  refine tg_top (y := nI n) (hs1) ?_
  refine tg_if_ne C 11 dX2_runCount_4 (by decide) 7 rfl (fun c4 => ?_) (fun c4 => ?_)
  · -- to 11
    replace c4 : ¬ n = 0 := fun q => c4 ((z_eq (by omega)).mpr q)
    refine tg_aload_n C dX2_runCount_11 12 rfl rfl 0 rfl ?_
    refine tg_get (T := TX2) (N := 2) (Cn := RX2) C 1 (by decide) (e_1 ad cy _) rfl w1 1 (by decide) w0 rfl rfl dX2_runCount_12 15 rfl ?_
    refine tg_top (y := nI n) (hs1) ?_
    refine tg_iconst C (nI 1) dX2_runCount_15 16 rfl (by decide) ?_
    refine tg_iadd C (nI (n + 1)) dX2_runCount_16 17 rfl (nI_add n 1) ?_
    exact hret dX2_runCount_17 ⟨by first | (rw [show rc n = n + 1 from if_neg c4]) | (rw [show rc n = 0 from if_pos c4]), rfl⟩
  · -- on
    replace c4 : n = 0 := (z_eq (by omega)).mp c4
    refine tg_iconst C (nI 0) dX2_runCount_7 8 rfl (by decide) ?_
    refine tg_goto C 17 dX2_runCount_8 (by decide) ?_
    exact hret dX2_runCount_17 ⟨by first | (rw [show rc n = n + 1 from if_neg c4]) | (rw [show rc n = 0 from if_pos c4]), rfl⟩
set_option maxHeartbeats 4000000 in
set_option maxRecDepth 100000 in
theorem c_X2_letterOrGap_m (l : Launch) (D : va_G) (cy : Nat → ClassId) (ad : Nat → Nat) (hDis : Dis ad) (σ : sS) {n : Nat} {w : Nat → Nat} (hS : Sp σ n w) : Mi l yX2_letterOrGap wsX2_letterOrGap 0 0 D cy ad [.ref (ad 1), .int ((-1))] σ (fun r τ => r = nI 0 ∧ σ = τ) := by
  obtain ⟨hs1, hs2, hs3⟩ := hS
  refine Mi.of (cc := cX2_letterOrGap) (nL := 2) (own := RX2) hDis (by decide) rfl [(0, .ref (ad 1)), (1, .int ((-1)))] rfl (Nat.le_of_ble_eq_true rfl) rfl ?_
  intro p e s m args below meth c A Q C hret
  refine tg_iload_n C dX2_letterOrGap_0 1 rfl rfl 1 rfl ?_
  refine tg_if_lt C 12 dX2_letterOrGap_1 (by decide) 4 rfl (fun c1 => ?_) (fun c1 => absurd (m1_lt) c1)
  refine tg_iconst C (nI 0) dX2_letterOrGap_12 13 rfl (by decide) ?_
  refine tg_goto C 22 dX2_letterOrGap_13 (by decide) ?_
  exact hret dX2_letterOrGap_22 ⟨rfl, rfl⟩
set_option maxHeartbeats 4000000 in
set_option maxRecDepth 100000 in
theorem c_X2_letterOrGap_k (l : Launch) (D : va_G) (cy : Nat → ClassId) (ad : Nat → Nat) (hDis : Dis ad) (σ : sS) {n : Nat} {w : Nat → Nat} (hS : Sp σ n w) {k : Nat} (hk : k ≤ 100) : Mi l yX2_letterOrGap wsX2_letterOrGap 0 0 D cy ad [.ref (ad 1), .int (nI k)] σ (fun r τ => r = nI (ltr n w k) ∧ σ = τ) := by
  have w0 : Cond.fieldLink RX2 15 "Tonguetell$Spelling" "length" "I" ∈ wsX2_letterOrGap := by decide +kernel
  have w1 : ∀ w ∈ wsX20, w ∈ wsX2_letterOrGap := by decide +kernel
  have w2 : Cond.fieldLink RX2 9 "Tonguetell$Spelling" "letters" "[I" ∈ wsX2_letterOrGap := by decide +kernel
  obtain ⟨hs1, hs2, hs3⟩ := hS
  refine Mi.of (cc := cX2_letterOrGap) (nL := 2) (own := RX2) hDis (by decide) rfl [(0, .ref (ad 1)), (1, .int (nI k))] rfl (Nat.le_of_ble_eq_true rfl) rfl ?_
  intro p e s m args below meth c A Q C hret
  refine tg_iload_n C dX2_letterOrGap_0 1 rfl rfl 1 rfl ?_
  refine tg_if_lt C 12 dX2_letterOrGap_1 (by decide) 4 rfl (fun c1 => absurd c1 (z_nlt (by omega))) (fun c1 => ?_)
  refine tg_iload_n C dX2_letterOrGap_4 5 rfl rfl 1 rfl ?_
  refine tg_aload_n C dX2_letterOrGap_5 6 rfl rfl 0 rfl ?_
  refine tg_get (T := TX2) (N := 2) (Cn := RX2) C 1 (by decide) (e_1 ad cy _) rfl w1 1 (by decide) w0 rfl rfl dX2_letterOrGap_6 9 rfl ?_
  refine tg_top (y := nI n) (hs1) ?_
  refine tg_icmp_lt C 16 dX2_letterOrGap_9 (by decide) 12 rfl (fun c9 => ?_) (fun c9 => ?_)
  · -- to 16
    replace c9 : k < n := (nI_ltI (by omega) (by omega)).mp c9
    refine tg_aload_n C dX2_letterOrGap_16 17 rfl rfl 0 rfl ?_
    refine tg_get (T := TX2) (N := 2) (Cn := RX2) C 1 (by decide) (e_1 ad cy _) rfl w1 0 (by decide) w2 rfl rfl dX2_letterOrGap_17 20 rfl ?_
    refine tg_iload_n C dX2_letterOrGap_20 21 rfl rfl 1 rfl ?_
    refine tg_iald C 2 (by decide) ((e_2 ad cy) _) k rfl (by omega) (by decide) dX2_letterOrGap_21 22 rfl ?_
    refine tg_top (y := nI (w k)) ((hs3 k (by omega)).1) ?_
    exact hret dX2_letterOrGap_22 ⟨by first | (rw [show ltr n w k = w k from if_pos (by omega)]) | (rw [show ltr n w k = 0 from if_neg (by omega)]), rfl⟩
  · -- on
    replace c9 : ¬ k < n := fun q => c9 ((nI_ltI (by omega) (by omega)).mpr q)
    refine tg_iconst C (nI 0) dX2_letterOrGap_12 13 rfl (by decide) ?_
    refine tg_goto C 22 dX2_letterOrGap_13 (by decide) ?_
    exact hret dX2_letterOrGap_22 ⟨by first | (rw [show ltr n w k = w k from if_pos (by omega)]) | (rw [show ltr n w k = 0 from if_neg (by omega)]), rfl⟩
theorem c_X2_letterOrGap (l : Launch) (D : va_G) (cy : Nat → ClassId) (ad : Nat → Nat) (hDis : Dis ad) (σ : sS) {n : Nat} {w : Nat → Nat} (hS : Sp σ n w) {x : Int32} {v : Nat} (hx : (x = -1 ∧ v = 0) ∨ ∃ k, k ≤ 100 ∧ x = nI k ∧ v = ltr n w k) : Mi l yX2_letterOrGap wsX2_letterOrGap 0 0 D cy ad [.ref (ad 1), .int x] σ (fun r τ => r = nI v ∧ σ = τ) := by
  rcases hx with ⟨rfl, rfl⟩ | ⟨k, hk, rfl, rfl⟩
  · exact c_X2_letterOrGap_m l D cy ad hDis σ hS
  · exact c_X2_letterOrGap_k l D cy ad hDis σ hS hk
theorem prevArg {n : Nat} {w : Nat → Nat} {k : Nat} (hk : k ≤ 100) : (nI k - nI 1 = -1 ∧ (if k = 0 then 0 else ltr n w (k - 1)) = 0) ∨ ∃ j, j ≤ 100 ∧ nI k - nI 1 = nI j ∧ (if k = 0 then 0 else ltr n w (k - 1)) = ltr n w j := by
  by_cases h : k = 0
  · subst h
    exact Or.inl ⟨by decide, rfl⟩
  · exact Or.inr ⟨k - 1, by omega, pk_sub (by omega), if_neg h⟩
set_option maxHeartbeats 4000000 in
set_option maxRecDepth 100000 in
theorem c_X2_runNumber (l : Launch) (D : va_G) (cy : Nat → ClassId) (ad : Nat → Nat) (hDis : Dis ad) (σ : sS) {n : Nat} {w : Nat → Nat} (hS : Sp σ n w) {k : Nat} (hk : k ≤ 100) : Mi l yX2_runNumber wsX2_runNumber 1 21 D cy ad [.ref (ad 1), .int (nI k)] σ (fun r τ => r = nI (rn n w k) ∧ σ = τ) := by
  refine Mi.of (cc := cX2_runNumber) (nL := 2) (own := RX2) hDis (by decide) rfl [(0, .ref (ad 1)), (1, .int (nI k))] rfl (Nat.le_of_ble_eq_true rfl) rfl ?_
  intro p e s m args below meth c A Q C hret
  refine tg_bipush C (nI 6) dX2_runNumber_0 2 rfl (by decide) ?_
  refine tg_aload_n C dX2_runNumber_2 3 rfl rfl 0 rfl ?_
  refine tg_iload_n C dX2_runNumber_3 4 rfl rfl 1 rfl ?_
  refine tg_iconst C (nI 1) dX2_runNumber_4 5 rfl (by decide) ?_
  refine tg_isub C (nI k - nI 1) dX2_runNumber_5 6 rfl (rfl) ?_
  refine tg_callVi C 1 (by decide) (e_1 ad cy _) rfl (c_X2_letterOrGap l D cy ad hDis σ hS (x := nI k - nI 1) (v := if k = 0 then 0 else ltr n w (k - 1)) (prevArg hk)) (cwV 1 C.2.2.2.2.1 gX2_runNumber_X2_letterOrGap rfl rfl rfl (by decide +kernel) ⟨Nat.le_of_ble_eq_true rfl, Nat.le_of_ble_eq_true rfl⟩) rfl rfl (Nat.le_of_ble_eq_true rfl) ⟨Nat.le_of_ble_eq_true rfl, Nat.le_of_ble_eq_true rfl⟩ dX2_runNumber_6 9 rfl (fun r6 τ6 h6 => ?_)
  obtain ⟨h6, h6s⟩ := h6
  subst h6s
  subst h6
  refine tg_imul C (nI (6 * ((if k = 0 then 0 else ltr n w (k - 1))))) dX2_runNumber_9 10 rfl (pk_mul 6 ((if k = 0 then 0 else ltr n w (k - 1)))) ?_
  refine tg_aload_n C dX2_runNumber_10 11 rfl rfl 0 rfl ?_
  refine tg_iload_n C dX2_runNumber_11 12 rfl rfl 1 rfl ?_
  refine tg_callVi C 1 (by decide) (e_1 ad cy _) rfl (c_X2_letterOrGap l D cy ad hDis σ hS (x := nI k) (v := ltr n w k) (Or.inr ⟨k, hk, rfl, rfl⟩)) (cwV 1 C.2.2.2.2.1 gX2_runNumber_X2_letterOrGap rfl rfl rfl (by decide +kernel) ⟨Nat.le_of_ble_eq_true rfl, Nat.le_of_ble_eq_true rfl⟩) rfl rfl (Nat.le_of_ble_eq_true rfl) ⟨Nat.le_of_ble_eq_true rfl, Nat.le_of_ble_eq_true rfl⟩ dX2_runNumber_12 15 rfl (fun r12 τ12 h12 => ?_)
  obtain ⟨h12, h12s⟩ := h12
  subst h12s
  subst h12
  refine tg_iadd C (nI ((6 * ((if k = 0 then 0 else ltr n w (k - 1)))) + (ltr n w k))) dX2_runNumber_15 16 rfl (nI_add (6 * ((if k = 0 then 0 else ltr n w (k - 1)))) (ltr n w k)) ?_
  exact hret dX2_runNumber_16 ⟨rfl, rfl⟩
set_option maxHeartbeats 4000000 in
set_option maxRecDepth 100000 in
theorem c_X2_append (l : Launch) (D : va_G) (cy : Nat → ClassId) (ad : Nat → Nat) (hDis : Dis ad) (σ : sS) {n : Nat} (h1 : σ 1 1 = nI n) (hn : n < 16) {x : Int32} : Mv l yX2_append wsX2_append 0 0 D cy ad [.ref (ad 1), .int x] σ (fun τ => τ = su (su σ 2 n x) 1 1 (nI (n + 1))) := by
  have w0 : Cond.fieldLink RX2 9 "Tonguetell$Spelling" "letters" "[I" ∈ wsX2_append := by decide +kernel
  have w1 : ∀ w ∈ wsX20, w ∈ wsX2_append := by decide +kernel
  have w2 : Cond.fieldLink RX2 15 "Tonguetell$Spelling" "length" "I" ∈ wsX2_append := by decide +kernel
  refine Mv.of (cc := cX2_append) (nL := 2) (own := RX2) hDis (by decide) rfl [(0, .ref (ad 1)), (1, .int x)] rfl (Nat.le_of_ble_eq_true rfl) rfl ?_
  intro p e s m args below meth c A Q C hret
  refine tg_aload_n C dX2_append_0 1 rfl rfl 0 rfl ?_
  refine tg_get (T := TX2) (N := 2) (Cn := RX2) C 1 (by decide) (e_1 ad cy _) rfl w1 0 (by decide) w0 rfl rfl dX2_append_1 4 rfl ?_
  refine tg_aload_n C dX2_append_4 5 rfl rfl 0 rfl ?_
  refine tg_get (T := TX2) (N := 2) (Cn := RX2) C 1 (by decide) (e_1 ad cy _) rfl w1 1 (by decide) w2 rfl rfl dX2_append_5 8 rfl ?_
  refine tg_top (y := nI n) (h1) ?_
  refine tg_iload_n C dX2_append_8 9 rfl rfl 1 rfl ?_
  refine tg_iast C 2 (by decide) (e_2 ad cy) n rfl (by omega) (by decide) dX2_append_9 10 rfl ?_
  refine tg_aload_n C dX2_append_10 11 rfl rfl 0 rfl ?_
  refine tg_dup C dX2_append_11 12 rfl rfl ?_
  refine tg_get (T := TX2) (N := 2) (Cn := RX2) C 1 (by decide) (e_1 ad cy _) rfl w1 1 (by decide) w2 rfl rfl dX2_append_12 15 rfl ?_
  refine tg_top (y := nI n) (by rw [su_ni _ _ _ (by decide)]; exact h1) ?_
  refine tg_iconst C (nI 1) dX2_append_15 16 rfl (by decide) ?_
  refine tg_iadd C (nI (n + 1)) dX2_append_16 17 rfl (nI_add n 1) ?_
  refine tg_put (T := TX2) (N := 2) (Cn := RX2) C tyX2 tyX2_ok nmX2 1 (by decide) (e_1 ad cy _) rfl w1 1 (by decide) w2 rfl rfl (by decide +kernel) (Nat.le_of_ble_eq_true rfl) (e_1 ad cy _) dX2_append_17 20 rfl ?_
  exact hret dX2_append_20 rfl
set_option maxHeartbeats 4000000 in
set_option maxRecDepth 100000 in
theorem c_X3_costOf (l : Launch) (D : va_G) (cy : Nat → ClassId) (ad : Nat → Nat) (hDis : Dis ad) (σ : sS) {a b : Nat} (hT : isTy a b) {c9 : Nat → Nat} {mm : Nat} (hL : Tl σ a b c9 mm) {r9 : Nat} (hr9 : r9 < 36) : Mi l yX3_costOf wsX3_costOf 0 0 D cy ad [.ref (ad a), .int (nI r9)] σ (fun r τ => r = nI (costN (c9 r9) mm) ∧ σ = τ) := by
  have w0 : Cond.fieldLink RX3 15 "Tonguetell$Tally" "sum" "I" ∈ wsX3_costOf := by decide +kernel
  have w1 : ∀ w ∈ wsX30, w ∈ wsX3_costOf := by decide +kernel
  have w2 : Cond.fieldLink RX3 9 "Tonguetell$Tally" "counts" "[I" ∈ wsX3_costOf := by decide +kernel
  obtain ⟨ht1, ht2, ht3⟩ := hL
  have hc9 := (ht3 r9 hr9).2
  refine Mi.of (cc := cX3_costOf) (nL := 5) (own := RX3) hDis (by decide) rfl [(0, .ref (ad a)), (1, .int (nI r9))] rfl (Nat.le_of_ble_eq_true rfl) rfl ?_
  intro p e s m args below meth c A Q C hret
  refine tg_aload_n C dX3_costOf_0 1 rfl rfl 0 rfl ?_
  refine tg_get (T := TX3) (N := 2) (Cn := RX3) C a hT.lt (hT.e ad cy _) rfl w1 1 (by decide) w0 rfl rfl dX3_costOf_1 4 rfl ?_
  refine tg_top (y := nI mm) (ht1) ?_
  refine tg_bipush C (nI 36) dX3_costOf_4 6 rfl (by decide) ?_
  refine tg_iadd C (nI (mm + 36)) dX3_costOf_6 7 rfl (nI_add mm 36) ?_
  refine tg_istore_n C dX3_costOf_7 8 rfl rfl [(2, .int (nI (mm + 36))), (0, .ref (ad a)), (1, .int (nI r9))] (by decide) rfl ?_
  refine tg_aload_n C dX3_costOf_8 9 rfl rfl 1 rfl ?_
  refine tg_get (T := TX3) (N := 2) (Cn := RX3) C a hT.lt (hT.e ad cy _) rfl w1 0 (by decide) w2 rfl rfl dX3_costOf_9 12 rfl ?_
  refine tg_iload_n C dX3_costOf_12 13 rfl rfl 2 rfl ?_
  refine tg_iald C b hT.lt2 ((hT.e2 ad cy) _) r9 rfl (by omega) (by decide) dX3_costOf_13 14 rfl ?_
  refine tg_top (y := nI (c9 r9)) ((ht3 r9 (by omega)).1) ?_
  refine tg_iconst C (nI 1) dX3_costOf_14 15 rfl (by decide) ?_
  refine tg_iadd C (nI ((c9 r9) + 1)) dX3_costOf_15 16 rfl (nI_add (c9 r9) 1) ?_
  refine tg_istore_n C dX3_costOf_16 17 rfl rfl [(3, .int (nI ((c9 r9) + 1))), (2, .int (nI (mm + 36))), (0, .ref (ad a)), (1, .int (nI r9))] (by decide) rfl ?_
  refine tg_iconst C (nI 0) dX3_costOf_17 18 rfl (by decide) ?_
  refine tg_istore C dX3_costOf_18 20 rfl [(4, .int (nI 0)), (3, .int (nI ((c9 r9) + 1))), (2, .int (nI (mm + 36))), (0, .ref (ad a)), (1, .int (nI r9))] (by decide) rfl ?_
  have L20 : ∀ (n20 : Nat) (k its : Nat), (k ≤ 10 ∧ its ≤ 601 * 2 ^ k ∧ costN (c9 r9) mm = k + dbl (10 - k) its (mm + 36)) → 10 - k < n20 → TT p l e (Rm 0 0) s m args below meth c D cy ad A 5 0 0 Q σ 20 [(0, .ref (ad a)), (1, .int (nI r9)), (2, .int (nI (mm + 36))), (3, .int (nI its)), (4, .int (nI k))] [] := by
    intro n20
    induction n20 with
    | zero => intro k its _ hn20; exact absurd hn20 (Nat.not_lt_zero _)
    | succ n20 ih20 =>
      intro k its ⟨hk, hb, he⟩ hn20
      have hp : 601 * 2 ^ k ≤ 601 * 2 ^ 10 := Nat.mul_le_mul_left _ (Nat.pow_le_pow_right (by decide) hk)
      refine tg_iload_n C dX3_costOf_20 21 rfl rfl 3 rfl ?_
      refine tg_iload_n C dX3_costOf_21 22 rfl rfl 2 rfl ?_
      refine tg_icmp_ge C 42 dX3_costOf_22 (by decide) 25 rfl (fun c22 => ?_) (fun c22 => ?_)
      · -- to 42
        replace c22 : (mm + 36) ≤ its := (nI_leI (by omega) (by omega)).mp c22
        refine tg_iload C dX3_costOf_42 44 rfl 4 rfl ?_
        exact hret dX3_costOf_44 ⟨by rw [he]; congr 1; first | (rw [show 10 - k = 0 by omega]; rfl) | (rw [show 10 - k = (10 - k - 1) + 1 by omega, dbl, if_neg (by omega)]; rfl) | (cases hz : 10 - k <;> simp [dbl] <;> omega), rfl⟩
      · -- on
        replace c22 : ¬ (mm + 36) ≤ its := fun q => c22 ((nI_leI (by omega) (by omega)).mpr q)
        refine tg_iload C dX3_costOf_25 27 rfl 4 rfl ?_
        refine tg_bipush C (nI 10) dX3_costOf_27 29 rfl (by decide) ?_
        refine tg_icmp_ge C 42 dX3_costOf_29 (by decide) 32 rfl (fun c29 => ?_) (fun c29 => ?_)
        · -- to 42
          replace c29 : 10 ≤ k := (nI_leI (by omega) (by omega)).mp c29
          refine tg_iload C dX3_costOf_42 44 rfl 4 rfl ?_
          exact hret dX3_costOf_44 ⟨by rw [he]; congr 1; first | (rw [show 10 - k = 0 by omega]; rfl) | (rw [show 10 - k = (10 - k - 1) + 1 by omega, dbl, if_neg (by omega)]; rfl) | (cases hz : 10 - k <;> simp [dbl] <;> omega), rfl⟩
        · -- on
          replace c29 : ¬ 10 ≤ k := fun q => c29 ((nI_leI (by omega) (by omega)).mpr q)
          refine tg_iload_n C dX3_costOf_32 33 rfl rfl 3 rfl ?_
          refine tg_iconst C (nI 2) dX3_costOf_33 34 rfl (by decide) ?_
          refine tg_imul C (nI (its * 2)) dX3_costOf_34 35 rfl (pk_mul its 2) ?_
          refine tg_istore_n C dX3_costOf_35 36 rfl rfl [(3, .int (nI (its * 2))), (0, .ref (ad a)), (1, .int (nI r9)), (2, .int (nI (mm + 36))), (4, .int (nI k))] (by decide) rfl ?_
          refine tg_iinc C (nI (k + 1)) dX3_costOf_36 39 rfl 4 rfl (nI_add k 1) [(4, .int (nI (k + 1))), (3, .int (nI (its * 2))), (0, .ref (ad a)), (1, .int (nI r9)), (2, .int (nI (mm + 36)))] (by decide) rfl ?_
          refine tg_goto C 20 dX3_costOf_39 (by decide) ?_
          refine tg_sub [2, 3, 4, 1, 0] rfl ?_
          exact ih20 (k + 1) (its * 2) ⟨by omega, by rw [Nat.pow_succ]; omega, by rw [he, show 10 - k = (10 - (k + 1)) + 1 by omega, dbl, if_pos (by omega)]; omega⟩ (by omega)
  refine tg_sub [3, 4, 2, 1, 0] rfl ?_
  exact L20 _ 0 (c9 r9 + 1) ⟨by omega, by omega, by simp [costN]⟩ (Nat.lt_succ_self _)
