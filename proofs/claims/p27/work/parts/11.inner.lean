/-! ===== the inner classes ===== -/
set_option maxHeartbeats 4000000 in
set_option maxRecDepth 100000 in
theorem c_X3_add (l : Launch) (D : va_G) (cy : Nat → ClassId) (ad : Nat → Nat) (hDis : Dis ad) (σ : sS) {a b : Nat} (hT : isTy a b) {c9 : Nat → Nat} {mm : Nat} (hL : Tl σ a b c9 mm) {r9 : Nat} (hr9 : r9 < 36) : Mv l yX3_add wsX3_add 0 0 D cy ad [.ref (ad a), .int (nI r9)] σ (fun τ => τ = su (su σ b r9 (nI (c9 r9 + 1))) a 1 (nI (mm + 1))) := by
  have w0 : Cond.fieldLink RX3 9 "Tonguetell$Tally" "counts" "[I" ∈ wsX3_add := by decide +kernel
  have w1 : ∀ w ∈ wsX30, w ∈ wsX3_add := by decide +kernel
  have w2 : Cond.fieldLink RX3 15 "Tonguetell$Tally" "sum" "I" ∈ wsX3_add := by decide +kernel
  obtain ⟨ht1, ht2, ht3⟩ := hL
  have hc9 := (ht3 r9 hr9).2
  refine Mv.of (cc := cX3_add) (nL := 2) (own := RX3) hDis (by decide) rfl [(0, .ref (ad a)), (1, .int (nI r9))] rfl (Nat.le_of_ble_eq_true rfl) rfl ?_
  intro p e s m args below meth c A Q C hret
  refine tg_aload_n C dX3_add_0 1 rfl rfl 0 rfl ?_
  refine tg_get (T := TX3) (N := 2) (Cn := RX3) C a hT.lt (hT.e ad cy _) rfl w1 0 (by decide) w0 rfl rfl dX3_add_1 4 rfl ?_
  refine tg_iload_n C dX3_add_4 5 rfl rfl 1 rfl ?_
  refine tg_dup2 C dX3_add_5 6 rfl rfl rfl ?_
  refine tg_iald C b hT.lt2 ((hT.e2 ad cy) _) r9 rfl (by omega) (by decide) dX3_add_6 7 rfl ?_
  refine tg_top (y := nI (c9 r9)) ((ht3 r9 (by omega)).1) ?_
  refine tg_iconst C (nI 1) dX3_add_7 8 rfl (by decide) ?_
  refine tg_iadd C (nI ((c9 r9) + 1)) dX3_add_8 9 rfl (nI_add (c9 r9) 1) ?_
  refine tg_iast C b hT.lt2 (hT.e2 ad cy) r9 rfl (by omega) (by decide) dX3_add_9 10 rfl ?_
  refine tg_aload_n C dX3_add_10 11 rfl rfl 0 rfl ?_
  refine tg_dup C dX3_add_11 12 rfl rfl ?_
  refine tg_get (T := TX3) (N := 2) (Cn := RX3) C a hT.lt (hT.e ad cy _) rfl w1 1 (by decide) w2 rfl rfl dX3_add_12 15 rfl ?_
  refine tg_top (y := nI mm) (by rw [su_ni _ _ _ hT.ne.symm]; exact ht1) ?_
  refine tg_iconst C (nI 1) dX3_add_15 16 rfl (by decide) ?_
  refine tg_iadd C (nI (mm + 1)) dX3_add_16 17 rfl (nI_add mm 1) ?_
  refine tg_put (T := TX3) (N := 2) (Cn := RX3) C tyX3 tyX3_ok nmX3 a hT.lt (hT.e ad cy _) rfl w1 1 (by decide) w2 rfl rfl (by decide +kernel) (Nat.le_of_ble_eq_true rfl) (hT.e ad cy _) dX3_add_17 20 rfl ?_
  exact hret dX3_add_20 rfl
set_option maxHeartbeats 4000000 in
set_option maxRecDepth 100000 in
theorem c_X3_remove (l : Launch) (D : va_G) (cy : Nat → ClassId) (ad : Nat → Nat) (hDis : Dis ad) (σ : sS) {a b : Nat} (hT : isTy a b) {c9 : Nat → Nat} {mm : Nat} (hL : Tl σ a b c9 mm) {r9 : Nat} (hr9 : r9 < 36) (hc1 : 0 < c9 r9) (hm1 : 0 < mm) : Mv l yX3_remove wsX3_remove 0 0 D cy ad [.ref (ad a), .int (nI r9)] σ (fun τ => τ = su (su σ b r9 (nI (c9 r9 - 1))) a 1 (nI (mm - 1))) := by
  have w0 : Cond.fieldLink RX3 9 "Tonguetell$Tally" "counts" "[I" ∈ wsX3_remove := by decide +kernel
  have w1 : ∀ w ∈ wsX30, w ∈ wsX3_remove := by decide +kernel
  have w2 : Cond.fieldLink RX3 15 "Tonguetell$Tally" "sum" "I" ∈ wsX3_remove := by decide +kernel
  obtain ⟨ht1, ht2, ht3⟩ := hL
  have hc9 := (ht3 r9 hr9).2
  refine Mv.of (cc := cX3_remove) (nL := 2) (own := RX3) hDis (by decide) rfl [(0, .ref (ad a)), (1, .int (nI r9))] rfl (Nat.le_of_ble_eq_true rfl) rfl ?_
  intro p e s m args below meth c A Q C hret
  refine tg_aload_n C dX3_remove_0 1 rfl rfl 0 rfl ?_
  refine tg_get (T := TX3) (N := 2) (Cn := RX3) C a hT.lt (hT.e ad cy _) rfl w1 0 (by decide) w0 rfl rfl dX3_remove_1 4 rfl ?_
  refine tg_iload_n C dX3_remove_4 5 rfl rfl 1 rfl ?_
  refine tg_dup2 C dX3_remove_5 6 rfl rfl rfl ?_
  refine tg_iald C b hT.lt2 ((hT.e2 ad cy) _) r9 rfl (by omega) (by decide) dX3_remove_6 7 rfl ?_
  refine tg_top (y := nI (c9 r9)) ((ht3 r9 (by omega)).1) ?_
  refine tg_iconst C (nI 1) dX3_remove_7 8 rfl (by decide) ?_
  refine tg_isub C (nI ((c9 r9) - 1)) dX3_remove_8 9 rfl (pk_sub (by omega)) ?_
  refine tg_iast C b hT.lt2 (hT.e2 ad cy) r9 rfl (by omega) (by decide) dX3_remove_9 10 rfl ?_
  refine tg_aload_n C dX3_remove_10 11 rfl rfl 0 rfl ?_
  refine tg_dup C dX3_remove_11 12 rfl rfl ?_
  refine tg_get (T := TX3) (N := 2) (Cn := RX3) C a hT.lt (hT.e ad cy _) rfl w1 1 (by decide) w2 rfl rfl dX3_remove_12 15 rfl ?_
  refine tg_top (y := nI mm) (by rw [su_ni _ _ _ hT.ne.symm]; exact ht1) ?_
  refine tg_iconst C (nI 1) dX3_remove_15 16 rfl (by decide) ?_
  refine tg_isub C (nI (mm - 1)) dX3_remove_16 17 rfl (pk_sub (by omega)) ?_
  refine tg_put (T := TX3) (N := 2) (Cn := RX3) C tyX3 tyX3_ok nmX3 a hT.lt (hT.e ad cy _) rfl w1 1 (by decide) w2 rfl rfl (by decide +kernel) (Nat.le_of_ble_eq_true rfl) (hT.e ad cy _) dX3_remove_17 20 rfl ?_
  exact hret dX3_remove_20 rfl
set_option maxHeartbeats 4000000 in
set_option maxRecDepth 100000 in
theorem c_X1_firstSlotWith (l : Launch) (D : va_G) (cy : Nat → ClassId) (ad : Nat → Nat) (hDis : Dis ad) (σ : sS) {x : Int32} : Mi l yX1_firstSlotWith wsX1_firstSlotWith 0 0 D cy ad [.ref (ad 16), .int x] σ (fun r τ => r = fsI (σ 17) x ∧ σ = τ) := by
  have w0 : Cond.fieldLink RX1 9 "Tonguetell$Shelf" "numberIn" "[I" ∈ wsX1_firstSlotWith := by decide +kernel
  have w1 : ∀ w ∈ wsX10, w ∈ wsX1_firstSlotWith := by decide +kernel
  refine Mi.of (cc := cX1_firstSlotWith) (nL := 3) (own := RX1) hDis (by decide) rfl [(0, .ref (ad 16)), (1, .int x)] rfl (Nat.le_of_ble_eq_true rfl) rfl ?_
  intro p e s m args below meth c A Q C hret
  refine tg_iconst C (nI 0) dX1_firstSlotWith_0 1 rfl (by decide) ?_
  refine tg_istore_n C dX1_firstSlotWith_1 2 rfl rfl [(2, .int (nI 0)), (0, .ref (ad 16)), (1, .int x)] (by decide) rfl ?_
  have L2 : ∀ (n2 : Nat) (i : Nat), (i ≤ 30 ∧ fsw (σ 17) x 30 0 = fsw (σ 17) x (30 - i) i) → 30 - i < n2 → TT p l e (Rm 0 0) s m args below meth c D cy ad A 3 0 0 Q σ 2 [(0, .ref (ad 16)), (1, .int x), (2, .int (nI i))] [] := by
    intro n2
    induction n2 with
    | zero => intro i _ hn2; exact absurd hn2 (Nat.not_lt_zero _)
    | succ n2 ih2 =>
      intro i ⟨hi, he⟩ hn2
      refine tg_iload_n C dX1_firstSlotWith_2 3 rfl rfl 2 rfl ?_
      refine tg_bipush C (nI 30) dX1_firstSlotWith_3 5 rfl (by decide) ?_
      refine tg_icmp_ge C 26 dX1_firstSlotWith_5 (by decide) 8 rfl (fun c5 => ?_) (fun c5 => ?_)
      · -- to 26
        replace c5 : 30 ≤ i := (nI_leI (by omega) (by omega)).mp c5
        refine tg_iconst C (-1) dX1_firstSlotWith_26 27 rfl (by decide) ?_
        exact hret dX1_firstSlotWith_27 ⟨by unfold fsI; rw [he, show 30 - i = 0 by omega, fsw, if_pos (by omega)], rfl⟩
      · -- on
        replace c5 : ¬ 30 ≤ i := fun q => c5 ((nI_leI (by omega) (by omega)).mpr q)
        refine tg_aload_n C dX1_firstSlotWith_8 9 rfl rfl 0 rfl ?_
        refine tg_get (T := TX1) (N := 5) (Cn := RX1) C 16 (by decide) (e_16 ad cy _) rfl w1 0 (by decide) w0 rfl rfl dX1_firstSlotWith_9 12 rfl ?_
        refine tg_iload_n C dX1_firstSlotWith_12 13 rfl rfl 2 rfl ?_
        refine tg_iald C 17 (by decide) ((e_17 ad cy) _) i rfl (by omega) (by decide) dX1_firstSlotWith_13 14 rfl ?_
        refine tg_iload_n C dX1_firstSlotWith_14 15 rfl rfl 1 rfl ?_
        refine tg_icmp_ne C 20 dX1_firstSlotWith_15 (by decide) 18 rfl (fun c15 => ?_) (fun c15 => ?_)
        · -- to 20
          refine tg_iinc C (nI (i + 1)) dX1_firstSlotWith_20 23 rfl 2 rfl (nI_add i 1) [(2, .int (nI (i + 1))), (0, .ref (ad 16)), (1, .int x)] (by decide) rfl ?_
          refine tg_goto C 2 dX1_firstSlotWith_23 (by decide) ?_
          refine tg_sub [1, 2, 0] rfl ?_
          exact ih2 (i + 1) ⟨by omega, by rw [he, show 30 - i = (30 - (i + 1)) + 1 by omega, fsw, if_neg c15]⟩ (by omega)
        · -- on
          refine tg_iload_n C dX1_firstSlotWith_18 19 rfl rfl 2 rfl ?_
          exact hret dX1_firstSlotWith_19 ⟨by unfold fsI; rw [he, show 30 - i = (30 - (i + 1)) + 1 by omega, fsw, if_pos c15, if_neg (by omega)], rfl⟩
  refine tg_sub [1, 2, 0] rfl ?_
  exact L2 _ 0 ⟨by omega, rfl⟩ (Nat.lt_succ_self _)
set_option maxHeartbeats 4000000 in
set_option maxRecDepth 100000 in
theorem c_X1_isFull (l : Launch) (D : va_G) (cy : Nat → ClassId) (ad : Nat → Nat) (hDis : Dis ad) (σ : sS) : Mi l yX1_isFull wsX1_isFull 1 22 D cy ad [.ref (ad 16)] σ (fun r τ => r = (if fsw (σ 17) (-1) 30 0 = 30 then 1 else 0) ∧ σ = τ) := by
  refine Mz.of (cc := cX1_isFull) (nL := 1) (own := RX1) hDis (by decide) rfl [(0, .ref (ad 16))] rfl (Nat.le_of_ble_eq_true rfl) rfl ?_
  intro p e s m args below meth c A Q C hret
  refine tg_aload_n C dX1_isFull_0 1 rfl rfl 0 rfl ?_
  refine tg_iconst C (-1) dX1_isFull_1 2 rfl (by decide) ?_
  refine tg_callVi C 16 (by decide) (e_16 ad cy _) rfl (c_X1_firstSlotWith l D cy ad hDis σ (x := -1)) (cwV 1 C.2.2.2.2.1 gX1_isFull_X1_firstSlotWith rfl rfl rfl (by decide +kernel) ⟨Nat.le_of_ble_eq_true rfl, Nat.le_of_ble_eq_true rfl⟩) rfl rfl (Nat.le_of_ble_eq_true rfl) ⟨Nat.le_of_ble_eq_true rfl, Nat.le_of_ble_eq_true rfl⟩ dX1_isFull_2 5 rfl (fun r2 τ2 h2 => ?_)
  obtain ⟨h2, h2s⟩ := h2
  subst h2s
  subst h2
  refine tg_iconst C (-1) dX1_isFull_5 6 rfl (by decide) ?_
  refine tg_icmp_ne C 13 dX1_isFull_6 (by decide) 9 rfl (fun c6 => ?_) (fun c6 => ?_)
  · -- to 13
    refine tg_iconst C (nI 0) dX1_isFull_13 14 rfl (by decide) ?_
    exact hret dX1_isFull_14 rfl ⟨by first | (rw [if_pos (fsI_m1.mp c6)]; rfl) | (rw [if_neg (fun q => c6 (fsI_m1.mpr q))]; rfl), rfl⟩
  · -- on
    refine tg_iconst C (nI 1) dX1_isFull_9 10 rfl (by decide) ?_
    refine tg_goto C 14 dX1_isFull_10 (by decide) ?_
    exact hret dX1_isFull_14 rfl ⟨by first | (rw [if_pos (fsI_m1.mp c6)]; rfl) | (rw [if_neg (fun q => c6 (fsI_m1.mpr q))]; rfl), rfl⟩
set_option maxHeartbeats 4000000 in
set_option maxRecDepth 100000 in
theorem c_X1_slotOf (l : Launch) (D : va_G) (cy : Nat → ClassId) (ad : Nat → Nat) (hDis : Dis ad) (σ : sS) {x : Int32} : Mi l yX1_slotOf wsX1_slotOf 1 22 D cy ad [.ref (ad 16), .int x] σ (fun r τ => r = (if x < 0 then -1 else fsI (σ 17) x) ∧ σ = τ) := by
  refine Mi.of (cc := cX1_slotOf) (nL := 2) (own := RX1) hDis (by decide) rfl [(0, .ref (ad 16)), (1, .int x)] rfl (Nat.le_of_ble_eq_true rfl) rfl ?_
  intro p e s m args below meth c A Q C hret
  refine tg_iload_n C dX1_slotOf_0 1 rfl rfl 1 rfl ?_
  refine tg_if_ge C 8 dX1_slotOf_1 (by decide) 4 rfl (fun c1 => ?_) (fun c1 => ?_)
  · -- to 8
    refine tg_aload_n C dX1_slotOf_8 9 rfl rfl 0 rfl ?_
    refine tg_iload_n C dX1_slotOf_9 10 rfl rfl 1 rfl ?_
    refine tg_callVi C 16 (by decide) (e_16 ad cy _) rfl (c_X1_firstSlotWith l D cy ad hDis σ (x := x)) (cwV 1 C.2.2.2.2.1 gX1_slotOf_X1_firstSlotWith rfl rfl rfl (by decide +kernel) ⟨Nat.le_of_ble_eq_true rfl, Nat.le_of_ble_eq_true rfl⟩) rfl rfl (Nat.le_of_ble_eq_true rfl) ⟨Nat.le_of_ble_eq_true rfl, Nat.le_of_ble_eq_true rfl⟩ dX1_slotOf_10 13 rfl (fun r10 τ10 h10 => ?_)
    obtain ⟨h10, h10s⟩ := h10
    subst h10s
    subst h10
    exact hret dX1_slotOf_13 ⟨by first | (rw [if_neg (fun q => absurd c1 (Int32.not_le.mpr q))]) | (rw [if_pos (Int32.not_le.mp c1)]), rfl⟩
  · -- on
    refine tg_iconst C (-1) dX1_slotOf_4 5 rfl (by decide) ?_
    refine tg_goto C 13 dX1_slotOf_5 (by decide) ?_
    exact hret dX1_slotOf_13 ⟨by first | (rw [if_neg (fun q => absurd c1 (Int32.not_le.mpr q))]) | (rw [if_pos (Int32.not_le.mp c1)]), rfl⟩
set_option maxHeartbeats 4000000 in
set_option maxRecDepth 100000 in
theorem c_X1_take (l : Launch) (D : va_G) (cy : Nat → ClassId) (ad : Nat → Nat) (hDis : Dis ad) (σ : sS) {s9 nx t ln : Nat} (hs : fsw (σ 17) (-1) 30 0 = s9) (hs9 : s9 < 30) (h4 : σ 16 4 = nI nx) (hnx : nx ≤ 10000) : Mi l yX1_take wsX1_take 1 22 D cy ad [.ref (ad 16), .int (nI t), .int (nI ln)] σ (fun r τ => r = nI s9 ∧ τ = su (su (su (su σ 17 s9 (nI nx)) 18 s9 (nI t)) 19 s9 (nI ln)) 16 4 (nI (nx + 1))) := by
  have w0 : Cond.fieldLink RX1 9 "Tonguetell$Shelf" "numberIn" "[I" ∈ wsX1_take := by decide +kernel
  have w1 : ∀ w ∈ wsX10, w ∈ wsX1_take := by decide +kernel
  have w2 : Cond.fieldLink RX1 26 "Tonguetell$Shelf" "nextNumber" "I" ∈ wsX1_take := by decide +kernel
  have w3 : Cond.fieldLink RX1 15 "Tonguetell$Shelf" "tongueIn" "[I" ∈ wsX1_take := by decide +kernel
  have w4 : Cond.fieldLink RX1 18 "Tonguetell$Shelf" "lengthIn" "[I" ∈ wsX1_take := by decide +kernel
  refine Mi.of (cc := cX1_take) (nL := 4) (own := RX1) hDis (by decide) rfl [(0, .ref (ad 16)), (1, .int (nI t)), (2, .int (nI ln))] rfl (Nat.le_of_ble_eq_true rfl) rfl ?_
  intro p e s m args below meth c A Q C hret
  refine tg_aload_n C dX1_take_0 1 rfl rfl 0 rfl ?_
  refine tg_iconst C (-1) dX1_take_1 2 rfl (by decide) ?_
  refine tg_callVi C 16 (by decide) (e_16 ad cy _) rfl (c_X1_firstSlotWith l D cy ad hDis σ (x := -1)) (cwV 1 C.2.2.2.2.1 gX1_take_X1_firstSlotWith rfl rfl rfl (by decide +kernel) ⟨Nat.le_of_ble_eq_true rfl, Nat.le_of_ble_eq_true rfl⟩) rfl rfl (Nat.le_of_ble_eq_true rfl) ⟨Nat.le_of_ble_eq_true rfl, Nat.le_of_ble_eq_true rfl⟩ dX1_take_2 5 rfl (fun r2 τ2 h2 => ?_)
  obtain ⟨h2, h2s⟩ := h2
  subst h2s
  subst h2
  refine tg_top (y := nI s9) (by unfold fsI; rw [hs, if_neg (by omega)]) ?_
  refine tg_istore_n C dX1_take_5 6 rfl rfl [(3, .int (nI s9)), (0, .ref (ad 16)), (1, .int (nI t)), (2, .int (nI ln))] (by decide) rfl ?_
  refine tg_aload_n C dX1_take_6 7 rfl rfl 1 rfl ?_
  refine tg_get (T := TX1) (N := 5) (Cn := RX1) C 16 (by decide) (e_16 ad cy _) rfl w1 0 (by decide) w0 rfl rfl dX1_take_7 10 rfl ?_
  refine tg_iload_n C dX1_take_10 11 rfl rfl 0 rfl ?_
  refine tg_aload_n C dX1_take_11 12 rfl rfl 1 rfl ?_
  refine tg_get (T := TX1) (N := 5) (Cn := RX1) C 16 (by decide) (e_16 ad cy _) rfl w1 4 (by decide) w2 rfl rfl dX1_take_12 15 rfl ?_
  refine tg_top (y := nI nx) (h4) ?_
  refine tg_iast C 17 (by decide) (e_17 ad cy) s9 rfl (by omega) (by decide) dX1_take_15 16 rfl ?_
  refine tg_aload_n C dX1_take_16 17 rfl rfl 1 rfl ?_
  refine tg_get (T := TX1) (N := 5) (Cn := RX1) C 16 (by decide) (e_16 ad cy _) rfl w1 1 (by decide) w3 rfl rfl dX1_take_17 20 rfl ?_
  refine tg_iload_n C dX1_take_20 21 rfl rfl 0 rfl ?_
  refine tg_iload_n C dX1_take_21 22 rfl rfl 2 rfl ?_
  refine tg_iast C 18 (by decide) (e_18 ad cy) s9 rfl (by omega) (by decide) dX1_take_22 23 rfl ?_
  refine tg_aload_n C dX1_take_23 24 rfl rfl 1 rfl ?_
  refine tg_get (T := TX1) (N := 5) (Cn := RX1) C 16 (by decide) (e_16 ad cy _) rfl w1 2 (by decide) w4 rfl rfl dX1_take_24 27 rfl ?_
  refine tg_iload_n C dX1_take_27 28 rfl rfl 0 rfl ?_
  refine tg_iload_n C dX1_take_28 29 rfl rfl 3 rfl ?_
  refine tg_iast C 19 (by decide) (e_19 ad cy) s9 rfl (by omega) (by decide) dX1_take_29 30 rfl ?_
  refine tg_aload_n C dX1_take_30 31 rfl rfl 1 rfl ?_
  refine tg_dup C dX1_take_31 32 rfl rfl ?_
  refine tg_get (T := TX1) (N := 5) (Cn := RX1) C 16 (by decide) (e_16 ad cy _) rfl w1 4 (by decide) w2 rfl rfl dX1_take_32 35 rfl ?_
  refine tg_top (y := nI nx) (by rw [su_ni _ _ _ (by decide)]; rw [su_ni _ _ _ (by decide)]; rw [su_ni _ _ _ (by decide)]; exact h4) ?_
  refine tg_iconst C (nI 1) dX1_take_35 36 rfl (by decide) ?_
  refine tg_iadd C (nI (nx + 1)) dX1_take_36 37 rfl (nI_add nx 1) ?_
  refine tg_put (T := TX1) (N := 5) (Cn := RX1) C tyX1 tyX1_ok nmX1 16 (by decide) (e_16 ad cy _) rfl w1 4 (by decide) w2 rfl rfl (by decide +kernel) (Nat.le_of_ble_eq_true rfl) (e_16 ad cy _) dX1_take_37 40 rfl ?_
  refine tg_iload_n C dX1_take_40 41 rfl rfl 0 rfl ?_
  exact hret dX1_take_41 ⟨rfl, rfl⟩
set_option maxHeartbeats 4000000 in
set_option maxRecDepth 100000 in
theorem c_X1_free (l : Launch) (D : va_G) (cy : Nat → ClassId) (ad : Nat → Nat) (hDis : Dis ad) (σ : sS) {s9 : Nat} (hs9 : s9 < 30) : Mv l yX1_free wsX1_free 0 0 D cy ad [.ref (ad 16), .int (nI s9)] σ (fun τ => τ = su σ 17 s9 (-1)) := by
  have w0 : Cond.fieldLink RX1 9 "Tonguetell$Shelf" "numberIn" "[I" ∈ wsX1_free := by decide +kernel
  have w1 : ∀ w ∈ wsX10, w ∈ wsX1_free := by decide +kernel
  refine Mv.of (cc := cX1_free) (nL := 2) (own := RX1) hDis (by decide) rfl [(0, .ref (ad 16)), (1, .int (nI s9))] rfl (Nat.le_of_ble_eq_true rfl) rfl ?_
  intro p e s m args below meth c A Q C hret
  refine tg_aload_n C dX1_free_0 1 rfl rfl 0 rfl ?_
  refine tg_get (T := TX1) (N := 5) (Cn := RX1) C 16 (by decide) (e_16 ad cy _) rfl w1 0 (by decide) w0 rfl rfl dX1_free_1 4 rfl ?_
  refine tg_iload_n C dX1_free_4 5 rfl rfl 1 rfl ?_
  refine tg_iconst C (-1) dX1_free_5 6 rfl (by decide) ?_
  refine tg_iast C 17 (by decide) (e_17 ad cy) s9 rfl (by omega) (by decide) dX1_free_6 7 rfl ?_
  exact hret dX1_free_7 rfl
set_option maxHeartbeats 4000000 in
set_option maxRecDepth 100000 in
theorem c_X0_begin (l : Launch) (D : va_G) (cy : Nat → ClassId) (ad : Nat → Nat) (hDis : Dis ad) (σ : sS) {x y z : Int32} : Mv l yX0_begin wsX0_begin 0 0 D cy ad [.ref (ad 51), .int x, .int y, .int z] σ (fun τ => τ = su (su (su σ 51 3 x) 51 4 y) 51 5 z) := by
  have w0 : Cond.fieldLink RX0 23 "Tonguetell$Cutter" "runCount" "I" ∈ wsX0_begin := by decide +kernel
  have w1 : ∀ w ∈ wsX00, w ∈ wsX0_begin := by decide +kernel
  have w2 : Cond.fieldLink RX0 27 "Tonguetell$Cutter" "choices" "I" ∈ wsX0_begin := by decide +kernel
  have w3 : Cond.fieldLink RX0 30 "Tonguetell$Cutter" "changePrice" "I" ∈ wsX0_begin := by decide +kernel
  refine Mv.of (cc := cX0_begin) (nL := 4) (own := RX0) hDis (by decide) rfl [(0, .ref (ad 51)), (1, .int x), (2, .int y), (3, .int z)] rfl (Nat.le_of_ble_eq_true rfl) rfl ?_
  intro p e s m args below meth c A Q C hret
  refine tg_aload_n C dX0_begin_0 1 rfl rfl 0 rfl ?_
  refine tg_iload_n C dX0_begin_1 2 rfl rfl 1 rfl ?_
  refine tg_put (T := TX0) (N := 6) (Cn := RX0) C tyX0 tyX0_ok nmX0 51 (by decide) (e_51 ad cy _) rfl w1 3 (by decide) w0 rfl rfl (by decide +kernel) (Nat.le_of_ble_eq_true rfl) (e_51 ad cy _) dX0_begin_2 5 rfl ?_
  refine tg_aload_n C dX0_begin_5 6 rfl rfl 0 rfl ?_
  refine tg_iload_n C dX0_begin_6 7 rfl rfl 2 rfl ?_
  refine tg_put (T := TX0) (N := 6) (Cn := RX0) C tyX0 tyX0_ok nmX0 51 (by decide) (e_51 ad cy _) rfl w1 4 (by decide) w2 rfl rfl (by decide +kernel) (Nat.le_of_ble_eq_true rfl) (e_51 ad cy _) dX0_begin_7 10 rfl ?_
  refine tg_aload_n C dX0_begin_10 11 rfl rfl 0 rfl ?_
  refine tg_iload_n C dX0_begin_11 12 rfl rfl 3 rfl ?_
  refine tg_put (T := TX0) (N := 6) (Cn := RX0) C tyX0 tyX0_ok nmX0 51 (by decide) (e_51 ad cy _) rfl w1 5 (by decide) w3 rfl rfl (by decide +kernel) (Nat.le_of_ble_eq_true rfl) (e_51 ad cy _) dX0_begin_12 15 rfl ?_
  exact hret dX0_begin_15 rfl
set_option maxHeartbeats 4000000 in
set_option maxRecDepth 100000 in
theorem c_X0_priceOfChange (l : Launch) (D : va_G) (cy : Nat → ClassId) (ad : Nat → Nat) (hDis : Dis ad) (σ : sS) {N tc pr : Nat} (hC : Ct σ N tc pr) {b t : Nat} (hb : b ≤ 5) (ht : t ≤ 5) : Mi l yX0_priceOfChange wsX0_priceOfChange 0 0 D cy ad [.ref (ad 51), .int (bv b), .int (nI t)] σ (fun r τ => r = nI (chg pr b t) ∧ σ = τ) := by
  have w0 : Cond.fieldLink RX0 30 "Tonguetell$Cutter" "changePrice" "I" ∈ wsX0_priceOfChange := by decide +kernel
  have w1 : ∀ w ∈ wsX00, w ∈ wsX0_priceOfChange := by decide +kernel
  obtain ⟨hc1, hc2, hc3, hc4, hc5, hc6, hc7⟩ := hC
  refine Mi.of (cc := cX0_priceOfChange) (nL := 3) (own := RX0) hDis (by decide) rfl [(0, .ref (ad 51)), (1, .int (bv b)), (2, .int (nI t))] rfl (Nat.le_of_ble_eq_true rfl) rfl ?_
  intro p e s m args below meth c A Q C hret
  refine tg_iload_n C dX0_priceOfChange_0 1 rfl rfl 1 rfl ?_
  refine tg_iconst C (-1) dX0_priceOfChange_1 2 rfl (by decide) ?_
  refine tg_icmp_eq C 10 dX0_priceOfChange_2 (by decide) 5 rfl (fun c2 => ?_) (fun c2 => ?_)
  · -- to 10
    replace c2 := (bv_m1 (by omega)).mp c2
    refine tg_iconst C (nI 0) dX0_priceOfChange_10 11 rfl (by decide) ?_
    refine tg_goto C 18 dX0_priceOfChange_11 (by decide) ?_
    exact hret dX0_priceOfChange_18 ⟨by unfold chg; first | rw [if_pos (by omega)] | rw [if_neg (by omega)], rfl⟩
  · -- on
    replace c2 : ¬ b = 0 := fun q => c2 ((bv_m1 (by omega)).mpr q)
    refine tg_iload_n C dX0_priceOfChange_5 6 rfl rfl 1 rfl ?_
    refine tg_iload_n C dX0_priceOfChange_6 7 rfl rfl 2 rfl ?_
    refine tg_icmp_ne C 14 dX0_priceOfChange_7 (by decide) 10 rfl (fun c7 => ?_) (fun c7 => ?_)
    · -- to 14
      replace c7 : ¬ b = t + 1 := fun q => c7 ((bv_t (by omega) (by omega)).mpr q)
      refine tg_aload_n C dX0_priceOfChange_14 15 rfl rfl 0 rfl ?_
      refine tg_get (T := TX0) (N := 6) (Cn := RX0) C 51 (by decide) (e_51 ad cy _) rfl w1 5 (by decide) w0 rfl rfl dX0_priceOfChange_15 18 rfl ?_
      refine tg_top (y := nI pr) (hc3) ?_
      exact hret dX0_priceOfChange_18 ⟨by unfold chg; first | rw [if_pos (by omega)] | rw [if_neg (by omega)], rfl⟩
    · -- on
      replace c7 := (bv_t (by omega) (by omega)).mp c7
      refine tg_iconst C (nI 0) dX0_priceOfChange_10 11 rfl (by decide) ?_
      refine tg_goto C 18 dX0_priceOfChange_11 (by decide) ?_
      exact hret dX0_priceOfChange_18 ⟨by unfold chg; first | rw [if_pos (by omega)] | rw [if_neg (by omega)], rfl⟩
set_option maxHeartbeats 4000000 in
set_option maxRecDepth 100000 in
theorem c_X0_restAfter (l : Launch) (D : va_G) (cy : Nat → ClassId) (ad : Nat → Nat) (hDis : Dis ad) (σ : sS) {N tc pr : Nat} (hC : Ct σ N tc pr) {p9 t b v : Nat} (hp : p9 < 17) (ht : t < 5) (hb : b ≤ 5) (hv : σ (72 + p9) t = nI v) : Mi l yX0_restAfter wsX0_restAfter 1 22 D cy ad [.ref (ad 51), .int (nI p9), .int (nI t), .int (bv b)] σ (fun r τ => r = nI (v + chg pr b t) ∧ σ = τ) := by
  have w0 : Cond.fieldLink RX0 20 "Tonguetell$Cutter" "rest" "[[I" ∈ wsX0_restAfter := by decide +kernel
  have w1 : ∀ w ∈ wsX00, w ∈ wsX0_restAfter := by decide +kernel
  refine Mi.of (cc := cX0_restAfter) (nL := 4) (own := RX0) hDis (by decide) rfl [(0, .ref (ad 51)), (1, .int (nI p9)), (2, .int (nI t)), (3, .int (bv b))] rfl (Nat.le_of_ble_eq_true rfl) rfl ?_
  intro p e s m args below meth c A Q C hret
  refine tg_aload_n C dX0_restAfter_0 1 rfl rfl 0 rfl ?_
  refine tg_get (T := TX0) (N := 6) (Cn := RX0) C 51 (by decide) (e_51 ad cy _) rfl w1 2 (by decide) w0 rfl rfl dX0_restAfter_1 4 rfl ?_
  refine tg_iload_n C dX0_restAfter_4 5 rfl rfl 1 rfl ?_
  refine tg_aald C 71 2 (by decide) ((e_71 ad cy) _) rfl rfl p9 rfl (by omega) (by decide) dX0_restAfter_5 6 rfl ?_
  refine tg_iload_n C dX0_restAfter_6 7 rfl rfl 2 rfl ?_
  refine tg_iald C (72 + p9) (by omega) ((e_rowB ad cy (show p9 < 17 by omega)) _) t rfl (by omega) (by decide) dX0_restAfter_7 8 rfl ?_
  refine tg_top (y := nI v) (hv) ?_
  refine tg_aload_n C dX0_restAfter_8 9 rfl rfl 0 rfl ?_
  refine tg_iload_n C dX0_restAfter_9 10 rfl rfl 3 rfl ?_
  refine tg_iload_n C dX0_restAfter_10 11 rfl rfl 2 rfl ?_
  refine tg_callVi C 51 (by decide) (e_51 ad cy _) rfl (c_X0_priceOfChange l D cy ad hDis σ hC (b := b) (t := t) hb (by omega)) (cwV 2 C.2.2.2.2.1 gX0_restAfter_X0_priceOfChange rfl rfl rfl (by decide +kernel) ⟨Nat.le_of_ble_eq_true rfl, Nat.le_of_ble_eq_true rfl⟩) rfl rfl (Nat.le_of_ble_eq_true rfl) ⟨Nat.le_of_ble_eq_true rfl, Nat.le_of_ble_eq_true rfl⟩ dX0_restAfter_11 14 rfl (fun r11 τ11 h11 => ?_)
  obtain ⟨h11, h11s⟩ := h11
  subst h11s
  subst h11
  refine tg_iadd C (nI (v + (chg pr b t))) dX0_restAfter_14 15 rfl (nI_add v (chg pr b t)) ?_
  exact hret dX0_restAfter_15 ⟨rfl, rfl⟩
set_option maxHeartbeats 4000000 in
set_option maxRecDepth 100000 in
theorem c_X0_cheapest (l : Launch) (D : va_G) (cy : Nat → ClassId) (ad : Nat → Nat) (hDis : Dis ad) (σ : sS) {N tc pr : Nat} (hC : Ct σ N tc pr) {p9 b : Nat} {f : Nat → Nat} (hp : p9 < 17) (hb : b ≤ 5) (hv : ∀ t, t < tc → σ (72 + p9) t = nI (f t) ∧ f t ≤ 100000) : Mi l yX0_cheapest wsX0_cheapest 2 45 D cy ad [.ref (ad 51), .int (nI p9), .int (bv b)] σ (fun r τ => r = nI (amin (fun t => f t + chg pr b t) tc) ∧ σ = τ) := by
  have w0 : Cond.fieldLink RX0 27 "Tonguetell$Cutter" "choices" "I" ∈ wsX0_cheapest := by decide +kernel
  have w1 : ∀ w ∈ wsX00, w ∈ wsX0_cheapest := by decide +kernel
  have hC0 := hC
  obtain ⟨hc1, hc2, hc3, hc4, hc5, hc6, hc7⟩ := hC
  refine Mi.of (cc := cX0_cheapest) (nL := 5) (own := RX0) hDis (by decide) rfl [(0, .ref (ad 51)), (1, .int (nI p9)), (2, .int (bv b))] rfl (Nat.le_of_ble_eq_true rfl) rfl ?_
  intro p e s m args below meth c A Q C hret
  refine tg_iconst C (nI 0) dX0_cheapest_0 1 rfl (by decide) ?_
  refine tg_istore_n C dX0_cheapest_1 2 rfl rfl [(3, .int (nI 0)), (0, .ref (ad 51)), (1, .int (nI p9)), (2, .int (bv b))] (by decide) rfl ?_
  refine tg_iconst C (nI 1) dX0_cheapest_2 3 rfl (by decide) ?_
  refine tg_istore C dX0_cheapest_3 5 rfl [(4, .int (nI 1)), (3, .int (nI 0)), (0, .ref (ad 51)), (1, .int (nI p9)), (2, .int (bv b))] (by decide) rfl ?_
  have L5 : ∀ (n5 : Nat) (t a9 : Nat), (t ≤ tc ∧ a9 = amin (fun t => f t + chg pr b t) t ∧ a9 < t) → tc - t < n5 → TT p l e (Rm 2 45) s m args below meth c D cy ad A 5 0 0 Q σ 5 [(0, .ref (ad 51)), (1, .int (nI p9)), (2, .int (bv b)), (3, .int (nI a9)), (4, .int (nI t))] [] := by
    intro n5
    induction n5 with
    | zero => intro t a9 _ hn5; exact absurd hn5 (Nat.not_lt_zero _)
    | succ n5 ih5 =>
      intro t a9 ⟨hi, he, hl⟩ hn5
      refine tg_iload C dX0_cheapest_5 7 rfl 4 rfl ?_
      refine tg_aload_n C dX0_cheapest_7 8 rfl rfl 0 rfl ?_
      refine tg_get (T := TX0) (N := 6) (Cn := RX0) C 51 (by decide) (e_51 ad cy _) rfl w1 4 (by decide) w0 rfl rfl dX0_cheapest_8 11 rfl ?_
      refine tg_top (y := nI tc) (hc2) ?_
      refine tg_icmp_ge C 41 dX0_cheapest_11 (by decide) 14 rfl (fun c11 => ?_) (fun c11 => ?_)
      · -- to 41
        replace c11 : tc ≤ t := (nI_leI (by omega) (by omega)).mp c11
        refine tg_iload_n C dX0_cheapest_41 42 rfl rfl 3 rfl ?_
        exact hret dX0_cheapest_42 ⟨by rw [he, show t = tc by omega], rfl⟩
      · -- on
        replace c11 : ¬ tc ≤ t := fun q => c11 ((nI_leI (by omega) (by omega)).mpr q)
        refine tg_aload_n C dX0_cheapest_14 15 rfl rfl 0 rfl ?_
        refine tg_iload_n C dX0_cheapest_15 16 rfl rfl 1 rfl ?_
        refine tg_iload C dX0_cheapest_16 18 rfl 4 rfl ?_
        refine tg_iload_n C dX0_cheapest_18 19 rfl rfl 2 rfl ?_
        refine tg_callVi C 51 (by decide) (e_51 ad cy _) rfl (c_X0_restAfter l D cy ad hDis σ hC0 (p9 := p9) (t := t) (b := b) hp (by omega) hb (hv t (by omega)).1) (cwV 3 C.2.2.2.2.1 gX0_cheapest_X0_restAfter rfl rfl rfl (by decide +kernel) ⟨Nat.le_of_ble_eq_true rfl, Nat.le_of_ble_eq_true rfl⟩) rfl rfl (Nat.le_of_ble_eq_true rfl) ⟨Nat.le_of_ble_eq_true rfl, Nat.le_of_ble_eq_true rfl⟩ dX0_cheapest_19 22 rfl (fun r19 τ19 h19 => ?_)
        obtain ⟨h19, h19s⟩ := h19
        subst h19s
        subst h19
        refine tg_aload_n C dX0_cheapest_22 23 rfl rfl 0 rfl ?_
        refine tg_iload_n C dX0_cheapest_23 24 rfl rfl 1 rfl ?_
        refine tg_iload_n C dX0_cheapest_24 25 rfl rfl 3 rfl ?_
        refine tg_iload_n C dX0_cheapest_25 26 rfl rfl 2 rfl ?_
        refine tg_callVi C 51 (by decide) (e_51 ad cy _) rfl (c_X0_restAfter l D cy ad hDis σ hC0 (p9 := p9) (t := a9) (b := b) hp (by omega) hb (hv a9 (by omega)).1) (cwV 3 C.2.2.2.2.1 gX0_cheapest_X0_restAfter rfl rfl rfl (by decide +kernel) ⟨Nat.le_of_ble_eq_true rfl, Nat.le_of_ble_eq_true rfl⟩) rfl rfl (Nat.le_of_ble_eq_true rfl) ⟨Nat.le_of_ble_eq_true rfl, Nat.le_of_ble_eq_true rfl⟩ dX0_cheapest_26 29 rfl (fun r26 τ26 h26 => ?_)
        obtain ⟨h26, h26s⟩ := h26
        subst h26s
        subst h26
        have hv1 := (hv t (by omega)).2
        have hv2 := (hv a9 (by omega)).2
        have hg1 := chg_le pr b t
        have hg2 := chg_le pr b a9
        refine tg_icmp_ge C 35 dX0_cheapest_29 (by decide) 32 rfl (fun c29 => ?_) (fun c29 => ?_)
        · -- to 35
          replace c29 : (f a9 + chg pr b a9) ≤ (f t + chg pr b t) := (nI_leI (by omega) (by omega)).mp c29
          refine tg_iinc C (nI (t + 1)) dX0_cheapest_35 38 rfl 4 rfl (nI_add t 1) [(4, .int (nI (t + 1))), (0, .ref (ad 51)), (1, .int (nI p9)), (2, .int (bv b)), (3, .int (nI a9))] (by decide) rfl ?_
          refine tg_goto C 5 dX0_cheapest_38 (by decide) ?_
          refine tg_sub [1, 2, 3, 4, 0] rfl ?_
          exact ih5 (t + 1) (a9) ⟨by omega, by rw [amin, ← he]; exact (if_neg (by omega)).symm, by omega⟩ (by omega)
        · -- on
          replace c29 : ¬ (f a9 + chg pr b a9) ≤ (f t + chg pr b t) := fun q => c29 ((nI_leI (by omega) (by omega)).mpr q)
          refine tg_iload C dX0_cheapest_32 34 rfl 4 rfl ?_
          refine tg_istore_n C dX0_cheapest_34 35 rfl rfl [(3, .int (nI t)), (0, .ref (ad 51)), (1, .int (nI p9)), (2, .int (bv b)), (4, .int (nI t))] (by decide) rfl ?_
          refine tg_iinc C (nI (t + 1)) dX0_cheapest_35 38 rfl 4 rfl (nI_add t 1) [(4, .int (nI (t + 1))), (3, .int (nI t)), (0, .ref (ad 51)), (1, .int (nI p9)), (2, .int (bv b))] (by decide) rfl ?_
          refine tg_goto C 5 dX0_cheapest_38 (by decide) ?_
          refine tg_sub [2, 3, 4, 1, 0] rfl ?_
          exact ih5 (t + 1) (t) ⟨by omega, by rw [amin, ← he]; exact (if_pos (by omega)).symm, by omega⟩ (by omega)
  refine tg_sub [2, 3, 4, 1, 0] rfl ?_
  exact L5 _ 1 0 ⟨by omega, by simp [amin], by omega⟩ (Nat.lt_succ_self _)
set_option maxHeartbeats 4000000 in
set_option maxRecDepth 100000 in
theorem c_X0_leastBehind (l : Launch) (D : va_G) (cy : Nat → ClassId) (ad : Nat → Nat) (hDis : Dis ad) (σ : sS) {N tc pr : Nat} (hC : Ct σ N tc pr) {k9 : Nat → Nat → Nat} (hk : ∀ p t, p < N → t < tc → k9 p t ≤ 10) {p9 t : Nat} (hR : Rs σ N tc (p9 + 1) k9 pr) (hp : p9 < N) (ht : t < tc) : Mi l yX0_leastBehind wsX0_leastBehind 3 69 D cy ad [.ref (ad 51), .int (nI p9), .int (nI t)] σ (fun r τ => r = nI (lb k9 pr tc N (N - (p9 + 1)) (t + 1)) ∧ σ = τ) := by
  have w0 : Cond.fieldLink RX0 23 "Tonguetell$Cutter" "runCount" "I" ∈ wsX0_leastBehind := by decide +kernel
  have w1 : ∀ w ∈ wsX00, w ∈ wsX0_leastBehind := by decide +kernel
  have hC0 := hC
  obtain ⟨hc1, hc2, hc3, hc4, hc5, hc6, hc7⟩ := hC
  refine Mi.of (cc := cX0_leastBehind) (nL := 4) (own := RX0) hDis (by decide) rfl [(0, .ref (ad 51)), (1, .int (nI p9)), (2, .int (nI t))] rfl (Nat.le_of_ble_eq_true rfl) rfl ?_
  intro p e s m args below meth c A Q C hret
  refine tg_iload_n C dX0_leastBehind_0 1 rfl rfl 1 rfl ?_
  refine tg_iconst C (nI 1) dX0_leastBehind_1 2 rfl (by decide) ?_
  refine tg_iadd C (nI (p9 + 1)) dX0_leastBehind_2 3 rfl (nI_add p9 1) ?_
  refine tg_istore_n C dX0_leastBehind_3 4 rfl rfl [(3, .int (nI (p9 + 1))), (0, .ref (ad 51)), (1, .int (nI p9)), (2, .int (nI t))] (by decide) rfl ?_
  refine tg_iload_n C dX0_leastBehind_4 5 rfl rfl 0 rfl ?_
  refine tg_aload_n C dX0_leastBehind_5 6 rfl rfl 1 rfl ?_
  refine tg_get (T := TX0) (N := 6) (Cn := RX0) C 51 (by decide) (e_51 ad cy _) rfl w1 3 (by decide) w0 rfl rfl dX0_leastBehind_6 9 rfl ?_
  refine tg_top (y := nI N) (hc1) ?_
  refine tg_icmp_lt C 16 dX0_leastBehind_9 (by decide) 12 rfl (fun c9 => ?_) (fun c9 => ?_)
  · -- to 16
    replace c9 : (p9 + 1) < N := (nI_ltI (by omega) (by omega)).mp c9
    refine tg_aload_n C dX0_leastBehind_16 17 rfl rfl 1 rfl ?_
    refine tg_iload_n C dX0_leastBehind_17 18 rfl rfl 0 rfl ?_
    refine tg_aload_n C dX0_leastBehind_18 19 rfl rfl 1 rfl ?_
    refine tg_iload_n C dX0_leastBehind_19 20 rfl rfl 0 rfl ?_
    refine tg_iload_n C dX0_leastBehind_20 21 rfl rfl 3 rfl ?_
    have hrow : ∀ t, t < tc → σ (72 + (p9 + 1)) t = nI (rb k9 pr tc N (N - (p9 + 1)) t) ∧ rb k9 pr tc N (N - (p9 + 1)) t ≤ 100000 := fun t h => ⟨hR (p9 + 1) t (Nat.le_refl _) (by omega) h, by have := rb_le hk hc6 hc7 (N - (p9 + 1)) t (by omega) h; omega⟩
    have ham := amin_lt (fun u => rb k9 pr tc N (N - (p9 + 1)) u + chg pr (t + 1) u) tc hc7
    refine tg_callVi C 51 (by decide) (e_51 ad cy _) rfl (c_X0_cheapest l D cy ad hDis σ hC0 (p9 := p9 + 1) (b := t + 1) (f := rb k9 pr tc N (N - (p9 + 1))) (by omega) (by omega) hrow) (cwV 2 C.2.2.2.2.1 gX0_leastBehind_X0_cheapest rfl rfl rfl (by decide +kernel) ⟨Nat.le_of_ble_eq_true rfl, Nat.le_of_ble_eq_true rfl⟩) rfl rfl (Nat.le_of_ble_eq_true rfl) ⟨Nat.le_of_ble_eq_true rfl, Nat.le_of_ble_eq_true rfl⟩ dX0_leastBehind_21 24 rfl (fun r21 τ21 h21 => ?_)
    obtain ⟨h21, h21s⟩ := h21
    subst h21s
    subst h21
    refine tg_iload_n C dX0_leastBehind_24 25 rfl rfl 3 rfl ?_
    refine tg_callVi C 51 (by decide) (e_51 ad cy _) rfl (c_X0_restAfter l D cy ad hDis σ hC0 (p9 := p9 + 1) (t := amin (fun u => rb k9 pr tc N (N - (p9 + 1)) u + chg pr (t + 1) u) tc) (b := t + 1) (by omega) (by omega) (by omega) (hrow _ ham).1) (cwV 3 C.2.2.2.2.1 gX0_leastBehind_X0_restAfter rfl rfl rfl (by decide +kernel) ⟨Nat.le_of_ble_eq_true rfl, Nat.le_of_ble_eq_true rfl⟩) rfl rfl (Nat.le_of_ble_eq_true rfl) ⟨Nat.le_of_ble_eq_true rfl, Nat.le_of_ble_eq_true rfl⟩ dX0_leastBehind_25 28 rfl (fun r25 τ25 h25 => ?_)
    obtain ⟨h25, h25s⟩ := h25
    subst h25s
    subst h25
    exact hret dX0_leastBehind_28 ⟨by unfold lb; first | (rw [if_pos (by omega)]; done) | (rw [if_neg (by omega)]), rfl⟩
  · -- on
    replace c9 : ¬ (p9 + 1) < N := fun q => c9 ((nI_ltI (by omega) (by omega)).mpr q)
    refine tg_iconst C (nI 0) dX0_leastBehind_12 13 rfl (by decide) ?_
    refine tg_goto C 28 dX0_leastBehind_13 (by decide) ?_
    exact hret dX0_leastBehind_28 ⟨by unfold lb; first | (rw [if_pos (by omega)]; done) | (rw [if_neg (by omega)]), rfl⟩
