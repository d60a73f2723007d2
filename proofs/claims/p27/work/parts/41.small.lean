/-! ===== the law reads its script; a number made small ===== -/
set_option maxHeartbeats 4000000 in
set_option maxRecDepth 100000 in
theorem c_L_cell (l : Launch) (D : va_G) (cy : Nat → ClassId) (ad : Nat → Nat) (hDis : Dis ad) (σ : sS) {b L k : Nat} {xs : Nat → Int32} (hL : L ≤ 260) (hk : k ≤ 200) : Si l yL_cell wsL_cell 0 0 D cy ad [.ref b, .int (nI k)] σ b L xs (fun r τ => σ = τ) := by
  refine Si.of (cc := cL_cell) (nL := 2) (own := RL) hDis (by decide) rfl [(0, .ref b), (1, .int (nI k))] rfl (Nat.le_of_ble_eq_true rfl) rfl ?_
  intro p e s m args below meth c A Q C hXs hbl hbA hret
  refine tg_iload_n C dL_cell_0 1 rfl rfl 1 rfl ?_
  refine tg_aload_n C dL_cell_1 2 rfl rfl 0 rfl ?_
  refine tg_slen C hXs hbl hbA dL_cell_2 3 rfl ?_
  refine tg_icmp_ge C 12 dL_cell_3 (by decide) 6 rfl (fun c3 => ?_) (fun c3 => ?_)
  · -- to 12
    replace c3 : L ≤ k := (nI_leI (by omega) (by omega)).mp c3
    refine tg_sipush C (nI 7919) dL_cell_12 15 rfl (by decide) ?_
    refine tg_iload_n C dL_cell_15 16 rfl rfl 1 rfl ?_
    refine tg_iconst C (nI 3) dL_cell_16 17 rfl (by decide) ?_
    refine tg_iadd C (nI (k + 3)) dL_cell_17 18 rfl (nI_add k 3) ?_
    refine tg_imul C (nI (7919 * (k + 3))) dL_cell_18 19 rfl (pk_mul 7919 (k + 3)) ?_
    refine tg_iload_n C dL_cell_19 20 rfl rfl 1 rfl ?_
    refine tg_bipush C (nI 11) dL_cell_20 22 rfl (by decide) ?_
    refine tg_iadd C (nI (k + 11)) dL_cell_22 23 rfl (nI_add k 11) ?_
    refine tg_imul C (nI ((7919 * (k + 3)) * (k + 11))) dL_cell_23 24 rfl (pk_mul (7919 * (k + 3)) (k + 11)) ?_
    exact hret dL_cell_24 rfl
  · -- on
    replace c3 : ¬ L ≤ k := fun q => c3 ((nI_leI (by omega) (by omega)).mpr q)
    refine tg_aload_n C dL_cell_6 7 rfl rfl 0 rfl ?_
    refine tg_iload_n C dL_cell_7 8 rfl rfl 1 rfl ?_
    refine tg_sld C hXs hbl hbA (vp_in_nI (by omega) (by omega)) dL_cell_8 9 rfl ?_
    refine tg_goto C 24 dL_cell_9 (by decide) ?_
    exact hret dL_cell_24 rfl
set_option maxHeartbeats 4000000 in
set_option maxRecDepth 100000 in
theorem c_L_low (l : Launch) (D : va_G) (cy : Nat → ClassId) (ad : Nat → Nat) (hDis : Dis ad) (σ : sS) {x : Int32} {N9 : Nat} (hN0 : 0 < N9) (hN1 : N9 ≤ 1000) : Mi l yL_low wsL_low 0 0 D cy ad [.int x, .int (nI N9)] σ (fun r τ => (∃ j, j < N9 ∧ r = nI j) ∧ σ = τ) := by
  have w0 : Cond.constant RL 7 (2147483647) ∈ wsL_low := by decide +kernel
  refine Mi.of (cc := cL_low) (nL := 2) (own := RL) hDis (by decide) rfl [(0, .int x), (1, .int (nI N9))] rfl (Nat.le_of_ble_eq_true rfl) rfl ?_
  intro p e s m args below meth c A Q C hret
  refine tg_iload_n C dL_low_0 1 rfl rfl 0 rfl ?_
  refine tg_ldc C (nI 2147483647) dL_low_1 3 rfl w0 ?_
  obtain ⟨j, hj, hje⟩ := pk_andE x (m := nI 2147483647) 31 (by decide)
  refine tg_iand C (nI j) dL_low_3 4 rfl (hje) ?_
  refine tg_iload_n C dL_low_4 5 rfl rfl 1 rfl ?_
  refine tg_irem C (nI (j % N9)) (nI_ne0 hN0 (by omega)) dL_low_5 6 rfl (pk_rem (by omega) hN0 (by omega)) ?_
  exact hret dL_low_6 ⟨⟨j % N9, Nat.mod_lt _ hN0, rfl⟩, rfl⟩
