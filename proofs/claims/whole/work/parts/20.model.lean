/-! ===== the reference, its smaller methods ===== -/
/-! ===== the reference's state, as numbers ===== -/
def MM (σ : sS) (n : Nat) (w : Nat → Nat) (tc mg pr tx nx : Nat) (nm wh wd : Nat → Nat) (kp : Nat → Nat → Nat) : Prop :=
  (σ 89 2 = nI n ∧ n ≤ 16 ∧ ∀ k, k < n → σ 90 k = nI (w k) ∧ w k < 6) ∧ (σ 89 3 = nI tc ∧ σ 89 4 = nI mg ∧ σ 89 5 = nI pr ∧ tc ≤ 5 ∧ mg ≤ 100 ∧ pr ≤ 100) ∧
  (σ 89 6 = nI tx ∧ σ 89 7 = nI nx ∧ tx ≤ 30 ∧ nx ≤ 10000 ∧ ∀ k, k < tx → (σ 91 k = nI (nm k) ∧ nm k ≤ 10000) ∧ (σ 92 k = nI (wh k) ∧ wh k < 5) ∧ (σ 93 k = nI (wd k) ∧ wd k ≤ 17) ∧ ∀ j, j < wd k → σ 94 (17 * k + j) = nI (kp k j) ∧ kp k j < 36)
theorem MM.fr {σ τ : sS} {n : Nat} {w : Nat → Nat} {tc mg pr tx nx : Nat} {nm wh wd : Nat → Nat} {kp : Nat → Nat → Nat} (h : MM σ n w tc mg pr tx nx nm wh wd kp) (e : ∀ k, k ≠ 0 → τ 89 k = σ 89 k) (e2 : ∀ j, 89 < j → j < 95 → τ j = σ j) : MM τ n w tc mg pr tx nx nm wh wd kp := by
  unfold MM at h ⊢
  rw [e 2 (by decide), e 3 (by decide), e 4 (by decide), e 5 (by decide), e 6 (by decide), e 7 (by decide), e2 90 (by decide) (by decide), e2 91 (by decide) (by decide), e2 92 (by decide) (by decide), e2 93 (by decide) (by decide), e2 94 (by decide) (by decide)]
  exact h
theorem MM.th {σ : sS} {n : Nat} {w : Nat → Nat} {tc mg pr tx nx : Nat} {nm wh wd : Nat → Nat} {kp : Nat → Nat → Nat} (h : MM σ n w tc mg pr tx nx nm wh wd kp) (v : Int32) : MM (su σ 89 0 v) n w tc mg pr tx nx nm wh wd kp :=
  h.fr (fun k hk => su_nk _ _ _ hk) (fun j h1 h2 => su_ni _ _ _ (by omega))
theorem su_su (σ : sS) (i k : Nat) (x y : Int32) : su (su σ i k x) i k y = su σ i k y := by
  funext j n
  rw [su_ap, su_ap, su_ap]
  split <;> rfl
def totN (wh wd : Nat → Nat) (tx t : Nat) : Nat := sm (fun k => if wh k = t then wd k else 0) tx
def cntN (wh wd : Nat → Nat) (kp : Nat → Nat → Nat) (tx t r : Nat) : Nat := sm (fun k => if wh k = t then cntF (kp k) (wd k) r else 0) tx
theorem totN_le {wh wd : Nat → Nat} {tx : Nat} (h1 : tx ≤ 30) (h : ∀ k, k < tx → wd k ≤ 17) (t : Nat) : totN wh wd tx t ≤ 510 := by
  have := sm_le (f := fun k => if wh k = t then wd k else 0) (B := 17) tx (fun k hk => by have := h k hk; split <;> omega)
  unfold totN
  omega
theorem cntN_le {wh wd : Nat → Nat} {kp : Nat → Nat → Nat} {tx : Nat} (h1 : tx ≤ 30) (h : ∀ k, k < tx → wd k ≤ 17) (t r : Nat) : cntN wh wd kp tx t r ≤ 510 := by
  have := sm_le (f := fun k => if wh k = t then cntF (kp k) (wd k) r else 0) (B := 17) tx (fun k hk => by have := h k hk; have := cntF_le (kp k) (wd k) r; split <;> omega)
  unfold cntN
  omega
theorem MM.wd_le {σ : sS} {n : Nat} {w : Nat → Nat} {tc mg pr tx nx : Nat} {nm wh wd : Nat → Nat} {kp : Nat → Nat → Nat} (h : MM σ n w tc mg pr tx nx nm wh wd kp) : ∀ k, k < tx → wd k ≤ 17 := fun k hk => (h.2.2.2.2.2.2 k hk).2.2.1.2
theorem rnLt {n : Nat} {w : Nat → Nat} (h : ∀ k, k < n → w k < 6) (k : Nat) : rn n w k < 36 := rn_lt h k
theorem MM.rn_lt {σ : sS} {n : Nat} {w : Nat → Nat} {tc mg pr tx nx : Nat} {nm wh wd : Nat → Nat} {kp : Nat → Nat → Nat} (h : MM σ n w tc mg pr tx nx nm wh wd kp) (k : Nat) : rn n w k < 36 := rnLt (fun k hk => (h.1.2.2 k hk).2) k
/-- is x one of 0 .. n - 1, as the reference asks it -/
def inb (x : Int32) (n : Nat) : Bool := decide (nI 0 ≤ x) && decide (x ≤ bv n)
theorem inb_t {x : Int32} {n : Nat} (hn : n ≤ 1000) : inb x n = true ↔ inR x n := by
  unfold inb
  rw [Bool.and_eq_true, decide_eq_true_iff, decide_eq_true_iff]
  constructor
  · rintro ⟨h1, h2⟩
    obtain ⟨j, hj, rfl⟩ := nI_of (x := x) (Int32.not_lt.mpr h1)
    cases n with
    | zero => exact absurd (Int32.le_trans h1 h2) (by decide)
    | succ m => exact ⟨j, by have := (nI_leI hj (by omega)).mp h2; omega, rfl⟩
  · rintro ⟨k, hk, rfl⟩
    cases n with
    | zero => omega
    | succ m => exact ⟨nI_pos' (by omega), nI_le (by omega) (by omega)⟩
theorem inb_f {x : Int32} {n : Nat} (hn : n ≤ 1000) : inb x n = false ↔ ¬ inR x n := by
  rw [← inb_t hn]
  cases inb x n <;> decide
set_option maxHeartbeats 4000000 in
set_option maxRecDepth 100000 in
theorem c_X5_thrown (l : Launch) (D : va_G) (cy : Nat → ClassId) (ad : Nat → Nat) (hDis : Dis ad) (σ : sS) : Mi l yX5_thrown wsX5_thrown 0 0 D cy ad [.ref (ad 89)] σ (fun r τ => r = σ 89 0 ∧ σ = τ) := by
  have w0 : Cond.fieldLink RX5 35 "TonguetellModel" "thrown" "I" ∈ wsX5_thrown := by decide +kernel
  have w1 : ∀ w ∈ wsX50, w ∈ wsX5_thrown := by decide +kernel
  refine Mi.of (cc := cX5_thrown) (nL := 1) (own := RX5) hDis (by decide) rfl [(0, .ref (ad 89))] rfl (Nat.le_of_ble_eq_true rfl) rfl ?_
  intro p e s m args below meth c A Q C hret
  refine tg_aload_n C dX5_thrown_0 1 rfl rfl 0 rfl ?_
  refine tg_get (T := TX5) (N := 13) (Cn := RX5) C 89 (by decide) (e_89 ad cy _) rfl w1 0 (by decide) w0 rfl rfl dX5_thrown_1 4 rfl ?_
  exact hret dX5_thrown_4 ⟨rfl, rfl⟩
set_option maxHeartbeats 4000000 in
set_option maxRecDepth 100000 in
theorem c_X5_fails (l : Launch) (D : va_G) (cy : Nat → ClassId) (ad : Nat → Nat) (hDis : Dis ad) (σ : sS) {x : Int32} : Mi l yX5_fails wsX5_fails 0 0 D cy ad [.ref (ad 89), .int x] σ (fun r τ => r = nI 0 ∧ τ = su σ 89 0 x) := by
  have w0 : Cond.fieldLink RX5 35 "TonguetellModel" "thrown" "I" ∈ wsX5_fails := by decide +kernel
  have w1 : ∀ w ∈ wsX50, w ∈ wsX5_fails := by decide +kernel
  refine Mi.of (cc := cX5_fails) (nL := 2) (own := RX5) hDis (by decide) rfl [(0, .ref (ad 89)), (1, .int x)] rfl (Nat.le_of_ble_eq_true rfl) rfl ?_
  intro p e s m args below meth c A Q C hret
  refine tg_aload_n C dX5_fails_0 1 rfl rfl 0 rfl ?_
  refine tg_iload_n C dX5_fails_1 2 rfl rfl 1 rfl ?_
  refine tg_put (T := TX5) (N := 13) (Cn := RX5) C tyX5 tyX5_ok nmX5 89 (by decide) (e_89 ad cy _) rfl w1 0 (by decide) w0 rfl rfl (by decide +kernel) (Nat.le_of_ble_eq_true rfl) (e_89 ad cy _) dX5_fails_2 5 rfl ?_
  refine tg_iconst C (nI 0) dX5_fails_5 6 rfl (by decide) ?_
  exact hret dX5_fails_6 ⟨rfl, rfl⟩
set_option maxHeartbeats 4000000 in
set_option maxRecDepth 100000 in
theorem c_X5_in (l : Launch) (D : va_G) (cy : Nat → ClassId) (ad : Nat → Nat) (hDis : Dis ad) (σ : sS) {x y z : Int32} : Mi l yX5_in wsX5_in 0 0 D cy ad [.int x, .int y, .int z] σ (fun r τ => r = bI (decide (y ≤ x) && decide (x ≤ z)) ∧ σ = τ) := by
  refine Mz.of (cc := cX5_in) (nL := 3) (own := RX5) hDis (by decide) rfl [(0, .int x), (1, .int y), (2, .int z)] rfl (Nat.le_of_ble_eq_true rfl) rfl ?_
  intro p e s m args below meth c A Q C hret
  refine tg_iload_n C dX5_in_0 1 rfl rfl 0 rfl ?_
  refine tg_iload_n C dX5_in_1 2 rfl rfl 1 rfl ?_
  refine tg_icmp_lt C 14 dX5_in_2 (by decide) 5 rfl (fun c2 => ?_) (fun c2 => ?_)
  · -- to 14
    refine tg_iconst C (nI 0) dX5_in_14 15 rfl (by decide) ?_
    exact hret dX5_in_15 rfl ⟨by first | (rw [decide_eq_true (Int32.not_lt.mp c2), decide_eq_true (Int32.not_lt.mp c7)]; rfl) | (rw [decide_eq_false (Int32.not_le.mpr c2)]; rfl) | (rw [decide_eq_false (Int32.not_le.mpr c7), Bool.and_false]; rfl), rfl⟩
  · -- on
    refine tg_iload_n C dX5_in_5 6 rfl rfl 0 rfl ?_
    refine tg_iload_n C dX5_in_6 7 rfl rfl 2 rfl ?_
    refine tg_icmp_gt C 14 dX5_in_7 (by decide) 10 rfl (fun c7 => ?_) (fun c7 => ?_)
    · -- to 14
      refine tg_iconst C (nI 0) dX5_in_14 15 rfl (by decide) ?_
      exact hret dX5_in_15 rfl ⟨by first | (rw [decide_eq_true (Int32.not_lt.mp c2), decide_eq_true (Int32.not_lt.mp c7)]; rfl) | (rw [decide_eq_false (Int32.not_le.mpr c2)]; rfl) | (rw [decide_eq_false (Int32.not_le.mpr c7), Bool.and_false]; rfl), rfl⟩
    · -- on
      refine tg_iconst C (nI 1) dX5_in_10 11 rfl (by decide) ?_
      refine tg_goto C 15 dX5_in_11 (by decide) ?_
      exact hret dX5_in_15 rfl ⟨by first | (rw [decide_eq_true (Int32.not_lt.mp c2), decide_eq_true (Int32.not_lt.mp c7)]; rfl) | (rw [decide_eq_false (Int32.not_le.mpr c2)]; rfl) | (rw [decide_eq_false (Int32.not_le.mpr c7), Bool.and_false]; rfl), rfl⟩
set_option maxHeartbeats 4000000 in
set_option maxRecDepth 100000 in
theorem c_X5_isTongue (l : Launch) (D : va_G) (cy : Nat → ClassId) (ad : Nat → Nat) (hDis : Dis ad) (σ : sS) {n : Nat} {w : Nat → Nat} {tc mg pr tx nx : Nat} {nm wh wd : Nat → Nat} {kp : Nat → Nat → Nat} (hM : MM σ n w tc mg pr tx nx nm wh wd kp) {x : Int32} : Mi l yX5_isTongue wsX5_isTongue 1 22 D cy ad [.ref (ad 89), .int x] σ (fun r τ => r = bI (inb x tc) ∧ σ = τ) := by
  have w0 : Cond.fieldLink RX5 38 "TonguetellModel" "tongueMany" "I" ∈ wsX5_isTongue := by decide +kernel
  have w1 : ∀ w ∈ wsX50, w ∈ wsX5_isTongue := by decide +kernel
  refine Mz.of (cc := cX5_isTongue) (nL := 2) (own := RX5) hDis (by decide) rfl [(0, .ref (ad 89)), (1, .int x)] rfl (Nat.le_of_ble_eq_true rfl) rfl ?_
  intro p e s m args below meth c A Q C hret
  refine tg_iload_n C dX5_isTongue_0 1 rfl rfl 1 rfl ?_
  refine tg_iconst C (nI 0) dX5_isTongue_1 2 rfl (by decide) ?_
  refine tg_aload_n C dX5_isTongue_2 3 rfl rfl 0 rfl ?_
  refine tg_get (T := TX5) (N := 13) (Cn := RX5) C 89 (by decide) (e_89 ad cy _) rfl w1 3 (by decide) w0 rfl rfl dX5_isTongue_3 6 rfl ?_
  refine tg_top (y := nI tc) (hM.2.1.1) ?_
  refine tg_iconst C (nI 1) dX5_isTongue_6 7 rfl (by decide) ?_
  refine tg_isub C (bv tc) dX5_isTongue_7 8 rfl (bv_pred tc) ?_
  refine tg_callSi C (c_X5_in l D cy ad hDis σ (x := x) (y := nI 0) (z := bv tc)) (cwS 3 C.2.2.2.2.1 gX5_isTongue_X5_in rfl rfl rfl (by decide +kernel) ⟨Nat.le_of_ble_eq_true rfl, Nat.le_of_ble_eq_true rfl⟩) rfl rfl (Nat.le_of_ble_eq_true rfl) ⟨Nat.le_of_ble_eq_true rfl, Nat.le_of_ble_eq_true rfl⟩ dX5_isTongue_8 11 rfl (fun r8 τ8 h8 => ?_)
  obtain ⟨h8, h8s⟩ := h8
  subst h8s
  subst h8
  exact hret dX5_isTongue_11 bI_z ⟨rfl, rfl⟩
set_option maxHeartbeats 4000000 in
set_option maxRecDepth 100000 in
theorem c_X5_runMany (l : Launch) (D : va_G) (cy : Nat → ClassId) (ad : Nat → Nat) (hDis : Dis ad) (σ : sS) {n : Nat} {w : Nat → Nat} {tc mg pr tx nx : Nat} {nm wh wd : Nat → Nat} {kp : Nat → Nat → Nat} (hM : MM σ n w tc mg pr tx nx nm wh wd kp) : Mi l yX5_runMany wsX5_runMany 0 0 D cy ad [.ref (ad 89)] σ (fun r τ => r = nI (rc n) ∧ σ = τ) := by
  have w0 : Cond.fieldLink RX5 45 "TonguetellModel" "letters" "I" ∈ wsX5_runMany := by decide +kernel
  have w1 : ∀ w ∈ wsX50, w ∈ wsX5_runMany := by decide +kernel
  have hn16 := hM.1.2.1
  have htc5 := hM.2.1.2.2.2.1
  have htx := hM.2.2.2.2.1
  have hrc := rc_le hn16
  have hrn := hM.rn_lt
  have hwd := hM.wd_le
  have hmg := hM.2.1.2.2.2.2.1
  have hpr := hM.2.1.2.2.2.2.2
  have hnx := hM.2.2.2.2.2.1
  refine Mi.of (cc := cX5_runMany) (nL := 1) (own := RX5) hDis (by decide) rfl [(0, .ref (ad 89))] rfl (Nat.le_of_ble_eq_true rfl) rfl ?_
  intro p e s m args below meth c A Q C hret
  refine tg_aload_n C dX5_runMany_0 1 rfl rfl 0 rfl ?_
  refine tg_get (T := TX5) (N := 13) (Cn := RX5) C 89 (by decide) (e_89 ad cy _) rfl w1 2 (by decide) w0 rfl rfl dX5_runMany_1 4 rfl ?_
  refine tg_top (y := nI n) (hM.1.1) ?_
  refine tg_if_ne C 11 dX5_runMany_4 (by decide) 7 rfl (fun c4 => ?_) (fun c4 => ?_)
  · -- to 11
    replace c4 : ¬ n = 0 := fun q => c4 ((z_eq (by omega)).mpr q)
    refine tg_aload_n C dX5_runMany_11 12 rfl rfl 0 rfl ?_
    refine tg_get (T := TX5) (N := 13) (Cn := RX5) C 89 (by decide) (e_89 ad cy _) rfl w1 2 (by decide) w0 rfl rfl dX5_runMany_12 15 rfl ?_
    refine tg_top (y := nI n) (hM.1.1) ?_
    refine tg_iconst C (nI 1) dX5_runMany_15 16 rfl (by decide) ?_
    refine tg_iadd C (nI (n + 1)) dX5_runMany_16 17 rfl (nI_add n 1) ?_
    exact hret dX5_runMany_17 ⟨by first | (rw [show rc n = n + 1 from if_neg c4]) | (rw [show rc n = 0 from if_pos c4]), rfl⟩
  · -- on
    replace c4 : n = 0 := (z_eq (by omega)).mp c4
    refine tg_iconst C (nI 0) dX5_runMany_7 8 rfl (by decide) ?_
    refine tg_goto C 17 dX5_runMany_8 (by decide) ?_
    exact hret dX5_runMany_17 ⟨by first | (rw [show rc n = n + 1 from if_neg c4]) | (rw [show rc n = 0 from if_pos c4]), rfl⟩
set_option maxHeartbeats 4000000 in
set_option maxRecDepth 100000 in
theorem c_X5_run (l : Launch) (D : va_G) (cy : Nat → ClassId) (ad : Nat → Nat) (hDis : Dis ad) (σ : sS) {n : Nat} {w : Nat → Nat} {tc mg pr tx nx : Nat} {nm wh wd : Nat → Nat} {kp : Nat → Nat → Nat} (hM : MM σ n w tc mg pr tx nx nm wh wd kp) {k : Nat} (hk : k ≤ n) : Mi l yX5_run wsX5_run 0 0 D cy ad [.ref (ad 89), .int (nI k)] σ (fun r τ => r = nI (rn n w k) ∧ σ = τ) := by
  have w0 : Cond.fieldLink RX5 7 "TonguetellModel" "spelled" "[I" ∈ wsX5_run := by decide +kernel
  have w1 : ∀ w ∈ wsX50, w ∈ wsX5_run := by decide +kernel
  have w2 : Cond.fieldLink RX5 45 "TonguetellModel" "letters" "I" ∈ wsX5_run := by decide +kernel
  have hn16 := hM.1.2.1
  have htc5 := hM.2.1.2.2.2.1
  have htx := hM.2.2.2.2.1
  have hrc := rc_le hn16
  have hrn := hM.rn_lt
  have hwd := hM.wd_le
  have hmg := hM.2.1.2.2.2.2.1
  have hpr := hM.2.1.2.2.2.2.2
  have hnx := hM.2.2.2.2.2.1
  refine Mi.of (cc := cX5_run) (nL := 4) (own := RX5) hDis (by decide) rfl [(0, .ref (ad 89)), (1, .int (nI k))] rfl (Nat.le_of_ble_eq_true rfl) rfl ?_
  intro p e s m args below meth c A Q C hret
  refine tg_iload_n C dX5_run_0 1 rfl rfl 1 rfl ?_
  refine tg_if_ne C 8 dX5_run_1 (by decide) 4 rfl (fun c1 => ?_) (fun c1 => ?_)
  · -- to 8
    replace c1 : ¬ k = 0 := fun q => c1 ((z_eq (by omega)).mpr q)
    refine tg_aload_n C dX5_run_8 9 rfl rfl 0 rfl ?_
    refine tg_get (T := TX5) (N := 13) (Cn := RX5) C 89 (by decide) (e_89 ad cy _) rfl w1 1 (by decide) w0 rfl rfl dX5_run_9 12 rfl ?_
    refine tg_iload_n C dX5_run_12 13 rfl rfl 1 rfl ?_
    refine tg_iconst C (nI 1) dX5_run_13 14 rfl (by decide) ?_
    refine tg_isub C (nI (k - 1)) dX5_run_14 15 rfl (pk_sub (by omega)) ?_
    refine tg_iald C 90 (by decide) ((e_90 ad cy) _) (k - 1) rfl (by omega) (by decide) dX5_run_15 16 rfl ?_
    refine tg_top (y := nI (w (k - 1))) ((hM.1.2.2 (k - 1) (by omega)).1) ?_
    refine tg_istore_n C dX5_run_16 17 rfl rfl [(2, .int (nI (w (k - 1)))), (0, .ref (ad 89)), (1, .int (nI k))] (by decide) rfl ?_
    refine tg_iload_n C dX5_run_17 18 rfl rfl 2 rfl ?_
    refine tg_aload_n C dX5_run_18 19 rfl rfl 1 rfl ?_
    refine tg_get (T := TX5) (N := 13) (Cn := RX5) C 89 (by decide) (e_89 ad cy _) rfl w1 2 (by decide) w2 rfl rfl dX5_run_19 22 rfl ?_
    refine tg_top (y := nI n) (hM.1.1) ?_
    refine tg_icmp_ne C 29 dX5_run_22 (by decide) 25 rfl (fun c22 => ?_) (fun c22 => ?_)
    · -- to 29
      replace c22 : ¬ k = n := fun q => c22 ((nI_eq (by omega) (by omega)).mpr q)
      refine tg_aload_n C dX5_run_29 30 rfl rfl 1 rfl ?_
      refine tg_get (T := TX5) (N := 13) (Cn := RX5) C 89 (by decide) (e_89 ad cy _) rfl w1 1 (by decide) w0 rfl rfl dX5_run_30 33 rfl ?_
      refine tg_iload_n C dX5_run_33 34 rfl rfl 2 rfl ?_
      refine tg_iald C 90 (by decide) ((e_90 ad cy) _) k rfl (by omega) (by decide) dX5_run_34 35 rfl ?_
      refine tg_top (y := nI (w k)) ((hM.1.2.2 k (by omega)).1) ?_
      refine tg_istore_n C dX5_run_35 36 rfl rfl [(3, .int (nI (w k))), (2, .int (nI (w (k - 1)))), (0, .ref (ad 89)), (1, .int (nI k))] (by decide) rfl ?_
      refine tg_bipush C (nI 6) dX5_run_36 38 rfl (by decide) ?_
      refine tg_iload_n C dX5_run_38 39 rfl rfl 1 rfl ?_
      refine tg_imul C (nI (6 * (w (k - 1)))) dX5_run_39 40 rfl (pk_mul 6 (w (k - 1))) ?_
      refine tg_iload_n C dX5_run_40 41 rfl rfl 0 rfl ?_
      refine tg_iadd C (nI ((6 * (w (k - 1))) + (w k))) dX5_run_41 42 rfl (nI_add (6 * (w (k - 1))) (w k)) ?_
      exact hret dX5_run_42 ⟨by unfold rn ltr; first | (rw [if_pos c1, if_neg (by omega)]; done) | (rw [if_pos c1, if_pos (by omega)]; done) | (rw [if_neg c1, if_pos (by omega), if_neg (by omega)]; done) | (rw [if_neg c1, if_pos (by omega), if_pos (by omega)]; done), rfl⟩
    · -- on
      replace c22 : k = n := (nI_eq (by omega) (by omega)).mp c22
      refine tg_iconst C (nI 0) dX5_run_25 26 rfl (by decide) ?_
      refine tg_goto C 35 dX5_run_26 (by decide) ?_
      refine tg_istore_n C dX5_run_35 36 rfl rfl [(3, .int (nI 0)), (2, .int (nI (w (k - 1)))), (0, .ref (ad 89)), (1, .int (nI k))] (by decide) rfl ?_
      refine tg_bipush C (nI 6) dX5_run_36 38 rfl (by decide) ?_
      refine tg_iload_n C dX5_run_38 39 rfl rfl 1 rfl ?_
      refine tg_imul C (nI (6 * (w (k - 1)))) dX5_run_39 40 rfl (pk_mul 6 (w (k - 1))) ?_
      refine tg_iload_n C dX5_run_40 41 rfl rfl 0 rfl ?_
      refine tg_iadd C (nI ((6 * (w (k - 1))) + 0)) dX5_run_41 42 rfl (nI_add (6 * (w (k - 1))) 0) ?_
      exact hret dX5_run_42 ⟨by unfold rn ltr; first | (rw [if_pos c1, if_neg (by omega)]; done) | (rw [if_pos c1, if_pos (by omega)]; done) | (rw [if_neg c1, if_pos (by omega), if_neg (by omega)]; done) | (rw [if_neg c1, if_pos (by omega), if_pos (by omega)]; done), rfl⟩
  · -- on
    replace c1 : k = 0 := (z_eq (by omega)).mp c1
    refine tg_iconst C (nI 0) dX5_run_4 5 rfl (by decide) ?_
    refine tg_goto C 16 dX5_run_5 (by decide) ?_
    refine tg_istore_n C dX5_run_16 17 rfl rfl [(2, .int (nI 0)), (0, .ref (ad 89)), (1, .int (nI k))] (by decide) rfl ?_
    refine tg_iload_n C dX5_run_17 18 rfl rfl 2 rfl ?_
    refine tg_aload_n C dX5_run_18 19 rfl rfl 1 rfl ?_
    refine tg_get (T := TX5) (N := 13) (Cn := RX5) C 89 (by decide) (e_89 ad cy _) rfl w1 2 (by decide) w2 rfl rfl dX5_run_19 22 rfl ?_
    refine tg_top (y := nI n) (hM.1.1) ?_
    refine tg_icmp_ne C 29 dX5_run_22 (by decide) 25 rfl (fun c22 => ?_) (fun c22 => ?_)
    · -- to 29
      replace c22 : ¬ k = n := fun q => c22 ((nI_eq (by omega) (by omega)).mpr q)
      refine tg_aload_n C dX5_run_29 30 rfl rfl 1 rfl ?_
      refine tg_get (T := TX5) (N := 13) (Cn := RX5) C 89 (by decide) (e_89 ad cy _) rfl w1 1 (by decide) w0 rfl rfl dX5_run_30 33 rfl ?_
      refine tg_iload_n C dX5_run_33 34 rfl rfl 2 rfl ?_
      refine tg_iald C 90 (by decide) ((e_90 ad cy) _) k rfl (by omega) (by decide) dX5_run_34 35 rfl ?_
      refine tg_top (y := nI (w k)) ((hM.1.2.2 k (by omega)).1) ?_
      refine tg_istore_n C dX5_run_35 36 rfl rfl [(3, .int (nI (w k))), (2, .int (nI 0)), (0, .ref (ad 89)), (1, .int (nI k))] (by decide) rfl ?_
      refine tg_bipush C (nI 6) dX5_run_36 38 rfl (by decide) ?_
      refine tg_iload_n C dX5_run_38 39 rfl rfl 1 rfl ?_
      refine tg_imul C (nI (6 * 0)) dX5_run_39 40 rfl (pk_mul 6 0) ?_
      refine tg_iload_n C dX5_run_40 41 rfl rfl 0 rfl ?_
      refine tg_iadd C (nI ((6 * 0) + (w k))) dX5_run_41 42 rfl (nI_add (6 * 0) (w k)) ?_
      exact hret dX5_run_42 ⟨by unfold rn ltr; first | (rw [if_pos c1, if_neg (by omega)]; done) | (rw [if_pos c1, if_pos (by omega)]; done) | (rw [if_neg c1, if_pos (by omega), if_neg (by omega)]; done) | (rw [if_neg c1, if_pos (by omega), if_pos (by omega)]; done), rfl⟩
    · -- on
      replace c22 : k = n := (nI_eq (by omega) (by omega)).mp c22
      refine tg_iconst C (nI 0) dX5_run_25 26 rfl (by decide) ?_
      refine tg_goto C 35 dX5_run_26 (by decide) ?_
      refine tg_istore_n C dX5_run_35 36 rfl rfl [(3, .int (nI 0)), (2, .int (nI 0)), (0, .ref (ad 89)), (1, .int (nI k))] (by decide) rfl ?_
      refine tg_bipush C (nI 6) dX5_run_36 38 rfl (by decide) ?_
      refine tg_iload_n C dX5_run_38 39 rfl rfl 1 rfl ?_
      refine tg_imul C (nI (6 * 0)) dX5_run_39 40 rfl (pk_mul 6 0) ?_
      refine tg_iload_n C dX5_run_40 41 rfl rfl 0 rfl ?_
      refine tg_iadd C (nI ((6 * 0) + 0)) dX5_run_41 42 rfl (nI_add (6 * 0) 0) ?_
      exact hret dX5_run_42 ⟨by unfold rn ltr; first | (rw [if_pos c1, if_neg (by omega)]; done) | (rw [if_pos c1, if_pos (by omega)]; done) | (rw [if_neg c1, if_pos (by omega), if_neg (by omega)]; done) | (rw [if_neg c1, if_pos (by omega), if_pos (by omega)]; done), rfl⟩
theorem rc_lt {n k : Nat} (h : k < rc n) : k ≤ n := by unfold rc at h; split at h <;> omega
set_option maxHeartbeats 4000000 in
set_option maxRecDepth 100000 in
theorem c_X5_runs (l : Launch) (D : va_G) (cy : Nat → ClassId) (ad : Nat → Nat) (hDis : Dis ad) (σ : sS) {n : Nat} {w : Nat → Nat} {tc mg pr tx nx : Nat} {nm wh wd : Nat → Nat} {kp : Nat → Nat → Nat} (hM : MM σ n w tc mg pr tx nx nm wh wd kp) : Mi l yX5_runs wsX5_runs 1 20 D cy ad [.ref (ad 89)] σ (fun r τ => r = nI (rc n) ∧ τ = su σ 89 0 (nI 0)) := by
  have w0 : Cond.fieldLink RX5 35 "TonguetellModel" "thrown" "I" ∈ wsX5_runs := by decide +kernel
  have w1 : ∀ w ∈ wsX50, w ∈ wsX5_runs := by decide +kernel
  refine Mi.of (cc := cX5_runs) (nL := 1) (own := RX5) hDis (by decide) rfl [(0, .ref (ad 89))] rfl (Nat.le_of_ble_eq_true rfl) rfl ?_
  intro p e s m args below meth c A Q C hret
  refine tg_aload_n C dX5_runs_0 1 rfl rfl 0 rfl ?_
  refine tg_iconst C (nI 0) dX5_runs_1 2 rfl (by decide) ?_
  refine tg_put (T := TX5) (N := 13) (Cn := RX5) C tyX5 tyX5_ok nmX5 89 (by decide) (e_89 ad cy _) rfl w1 0 (by decide) w0 rfl rfl (by decide +kernel) (Nat.le_of_ble_eq_true rfl) (e_89 ad cy _) dX5_runs_2 5 rfl ?_
  obtain ⟨σ1, hσ1⟩ : ∃ z : sS, z = su σ 89 0 (nI 0) := ⟨_, rfl⟩
  rw [← hσ1]
  have hM1 : MM σ1 n w tc mg pr tx nx nm wh wd kp := by rw [hσ1]; exact hM.th _
  refine tg_aload_n C dX5_runs_5 6 rfl rfl 0 rfl ?_
  refine tg_callVi C 89 (by decide) (e_89 ad cy _) rfl (c_X5_runMany l D cy ad hDis σ1 hM1) (cwV 0 C.2.2.2.2.1 gX5_runs_X5_runMany rfl rfl rfl (by decide +kernel) ⟨Nat.le_of_ble_eq_true rfl, Nat.le_of_ble_eq_true rfl⟩) rfl rfl (Nat.le_of_ble_eq_true rfl) ⟨Nat.le_of_ble_eq_true rfl, Nat.le_of_ble_eq_true rfl⟩ dX5_runs_6 9 rfl (fun r6 τ6 h6 => ?_)
  obtain ⟨h6, h6s⟩ := h6
  subst h6s
  subst h6
  exact hret dX5_runs_9 ⟨rfl, hσ1⟩
set_option maxHeartbeats 4000000 in
set_option maxRecDepth 100000 in
theorem c_X5_clearSpelled (l : Launch) (D : va_G) (cy : Nat → ClassId) (ad : Nat → Nat) (hDis : Dis ad) (σ : sS) {n : Nat} {w : Nat → Nat} {tc mg pr tx nx : Nat} {nm wh wd : Nat → Nat} {kp : Nat → Nat → Nat} (hM : MM σ n w tc mg pr tx nx nm wh wd kp) : Mi l yX5_clearSpelled wsX5_clearSpelled 0 0 D cy ad [.ref (ad 89)] σ (fun r τ => r = nI n ∧ τ = su (su σ 89 0 (nI 0)) 89 2 (nI 0)) := by
  have w0 : Cond.fieldLink RX5 35 "TonguetellModel" "thrown" "I" ∈ wsX5_clearSpelled := by decide +kernel
  have w1 : ∀ w ∈ wsX50, w ∈ wsX5_clearSpelled := by decide +kernel
  have w2 : Cond.fieldLink RX5 45 "TonguetellModel" "letters" "I" ∈ wsX5_clearSpelled := by decide +kernel
  refine Mi.of (cc := cX5_clearSpelled) (nL := 2) (own := RX5) hDis (by decide) rfl [(0, .ref (ad 89))] rfl (Nat.le_of_ble_eq_true rfl) rfl ?_
  intro p e s m args below meth c A Q C hret
  refine tg_aload_n C dX5_clearSpelled_0 1 rfl rfl 0 rfl ?_
  refine tg_iconst C (nI 0) dX5_clearSpelled_1 2 rfl (by decide) ?_
  refine tg_put (T := TX5) (N := 13) (Cn := RX5) C tyX5 tyX5_ok nmX5 89 (by decide) (e_89 ad cy _) rfl w1 0 (by decide) w0 rfl rfl (by decide +kernel) (Nat.le_of_ble_eq_true rfl) (e_89 ad cy _) dX5_clearSpelled_2 5 rfl ?_
  obtain ⟨σ1, hσ1⟩ : ∃ z : sS, z = su σ 89 0 (nI 0) := ⟨_, rfl⟩
  rw [← hσ1]
  have hM1 : MM σ1 n w tc mg pr tx nx nm wh wd kp := by rw [hσ1]; exact hM.th _
  refine tg_aload_n C dX5_clearSpelled_5 6 rfl rfl 0 rfl ?_
  refine tg_get (T := TX5) (N := 13) (Cn := RX5) C 89 (by decide) (e_89 ad cy _) rfl w1 2 (by decide) w2 rfl rfl dX5_clearSpelled_6 9 rfl ?_
  refine tg_top (y := nI n) (hM1.1.1) ?_
  refine tg_istore_n C dX5_clearSpelled_9 10 rfl rfl [(1, .int (nI n)), (0, .ref (ad 89))] (by decide) rfl ?_
  refine tg_aload_n C dX5_clearSpelled_10 11 rfl rfl 1 rfl ?_
  refine tg_iconst C (nI 0) dX5_clearSpelled_11 12 rfl (by decide) ?_
  refine tg_put (T := TX5) (N := 13) (Cn := RX5) C tyX5 tyX5_ok nmX5 89 (by decide) (e_89 ad cy _) rfl w1 2 (by decide) w2 rfl rfl (by decide +kernel) (Nat.le_of_ble_eq_true rfl) (e_89 ad cy _) dX5_clearSpelled_12 15 rfl ?_
  refine tg_iload_n C dX5_clearSpelled_15 16 rfl rfl 0 rfl ?_
  exact hret dX5_clearSpelled_16 ⟨rfl, by rw [hσ1]⟩
set_option maxHeartbeats 4000000 in
set_option maxRecDepth 100000 in
theorem c_X5_tongues (l : Launch) (D : va_G) (cy : Nat → ClassId) (ad : Nat → Nat) (hDis : Dis ad) (σ : sS) {n : Nat} {w : Nat → Nat} {tc mg pr tx nx : Nat} {nm wh wd : Nat → Nat} {kp : Nat → Nat → Nat} (hM : MM σ n w tc mg pr tx nx nm wh wd kp) : Mi l yX5_tongues wsX5_tongues 0 0 D cy ad [.ref (ad 89)] σ (fun r τ => r = nI tc ∧ τ = su σ 89 0 (nI 0)) := by
  have w0 : Cond.fieldLink RX5 35 "TonguetellModel" "thrown" "I" ∈ wsX5_tongues := by decide +kernel
  have w1 : ∀ w ∈ wsX50, w ∈ wsX5_tongues := by decide +kernel
  have w2 : Cond.fieldLink RX5 38 "TonguetellModel" "tongueMany" "I" ∈ wsX5_tongues := by decide +kernel
  refine Mi.of (cc := cX5_tongues) (nL := 1) (own := RX5) hDis (by decide) rfl [(0, .ref (ad 89))] rfl (Nat.le_of_ble_eq_true rfl) rfl ?_
  intro p e s m args below meth c A Q C hret
  refine tg_aload_n C dX5_tongues_0 1 rfl rfl 0 rfl ?_
  refine tg_iconst C (nI 0) dX5_tongues_1 2 rfl (by decide) ?_
  refine tg_put (T := TX5) (N := 13) (Cn := RX5) C tyX5 tyX5_ok nmX5 89 (by decide) (e_89 ad cy _) rfl w1 0 (by decide) w0 rfl rfl (by decide +kernel) (Nat.le_of_ble_eq_true rfl) (e_89 ad cy _) dX5_tongues_2 5 rfl ?_
  obtain ⟨σ1, hσ1⟩ : ∃ z : sS, z = su σ 89 0 (nI 0) := ⟨_, rfl⟩
  rw [← hσ1]
  have hM1 : MM σ1 n w tc mg pr tx nx nm wh wd kp := by rw [hσ1]; exact hM.th _
  refine tg_aload_n C dX5_tongues_5 6 rfl rfl 0 rfl ?_
  refine tg_get (T := TX5) (N := 13) (Cn := RX5) C 89 (by decide) (e_89 ad cy _) rfl w1 3 (by decide) w2 rfl rfl dX5_tongues_6 9 rfl ?_
  refine tg_top (y := nI tc) (hM1.2.1.1) ?_
  exact hret dX5_tongues_9 ⟨rfl, hσ1⟩
set_option maxHeartbeats 4000000 in
set_option maxRecDepth 100000 in
theorem c_X5_runAt (l : Launch) (D : va_G) (cy : Nat → ClassId) (ad : Nat → Nat) (hDis : Dis ad) (σ : sS) {n : Nat} {w : Nat → Nat} {tc mg pr tx nx : Nat} {nm wh wd : Nat → Nat} {kp : Nat → Nat → Nat} (hM : MM σ n w tc mg pr tx nx nm wh wd kp) {x : Int32} : Mi l yX5_runAt wsX5_runAt 1 23 D cy ad [.ref (ad 89), .int x] σ (fun r τ => (∃ k, k < rc n ∧ x = nI k ∧ r = nI (rn n w k) ∧ τ = su σ 89 0 (nI 0)) ∨ (¬ inR x (rc n) ∧ τ = su σ 89 0 (nI 1))) := by
  have w0 : Cond.fieldLink RX5 35 "TonguetellModel" "thrown" "I" ∈ wsX5_runAt := by decide +kernel
  have w1 : ∀ w ∈ wsX50, w ∈ wsX5_runAt := by decide +kernel
  have hn16 := hM.1.2.1
  have htc5 := hM.2.1.2.2.2.1
  have htx := hM.2.2.2.2.1
  have hrc := rc_le hn16
  have hrn := hM.rn_lt
  have hwd := hM.wd_le
  have hmg := hM.2.1.2.2.2.2.1
  have hpr := hM.2.1.2.2.2.2.2
  have hnx := hM.2.2.2.2.2.1
  refine Mi.of (cc := cX5_runAt) (nL := 2) (own := RX5) hDis (by decide) rfl [(0, .ref (ad 89)), (1, .int x)] rfl (Nat.le_of_ble_eq_true rfl) rfl ?_
  intro p e s m args below meth c A Q C hret
  refine tg_aload_n C dX5_runAt_0 1 rfl rfl 0 rfl ?_
  refine tg_iconst C (nI 0) dX5_runAt_1 2 rfl (by decide) ?_
  refine tg_put (T := TX5) (N := 13) (Cn := RX5) C tyX5 tyX5_ok nmX5 89 (by decide) (e_89 ad cy _) rfl w1 0 (by decide) w0 rfl rfl (by decide +kernel) (Nat.le_of_ble_eq_true rfl) (e_89 ad cy _) dX5_runAt_2 5 rfl ?_
  obtain ⟨σ1, hσ1⟩ : ∃ z : sS, z = su σ 89 0 (nI 0) := ⟨_, rfl⟩
  rw [← hσ1]
  have hM1 : MM σ1 n w tc mg pr tx nx nm wh wd kp := by rw [hσ1]; exact hM.th _
  refine tg_iload_n C dX5_runAt_5 6 rfl rfl 1 rfl ?_
  refine tg_iconst C (nI 0) dX5_runAt_6 7 rfl (by decide) ?_
  refine tg_aload_n C dX5_runAt_7 8 rfl rfl 0 rfl ?_
  refine tg_callVi C 89 (by decide) (e_89 ad cy _) rfl (c_X5_runMany l D cy ad hDis σ1 hM1) (cwV 0 C.2.2.2.2.1 gX5_runAt_X5_runMany rfl rfl rfl (by decide +kernel) ⟨Nat.le_of_ble_eq_true rfl, Nat.le_of_ble_eq_true rfl⟩) rfl rfl (Nat.le_of_ble_eq_true rfl) ⟨Nat.le_of_ble_eq_true rfl, Nat.le_of_ble_eq_true rfl⟩ dX5_runAt_8 11 rfl (fun r8 τ8 h8 => ?_)
  obtain ⟨h8, h8s⟩ := h8
  subst h8s
  subst h8
  refine tg_iconst C (nI 1) dX5_runAt_11 12 rfl (by decide) ?_
  refine tg_isub C (bv (rc n)) dX5_runAt_12 13 rfl (bv_pred (rc n)) ?_
  refine tg_callSi C (c_X5_in l D cy ad hDis σ1 (x := x) (y := nI 0) (z := bv (rc n))) (cwS 3 C.2.2.2.2.1 gX5_runAt_X5_in rfl rfl rfl (by decide +kernel) ⟨Nat.le_of_ble_eq_true rfl, Nat.le_of_ble_eq_true rfl⟩) rfl rfl (Nat.le_of_ble_eq_true rfl) ⟨Nat.le_of_ble_eq_true rfl, Nat.le_of_ble_eq_true rfl⟩ dX5_runAt_13 16 rfl (fun r13 τ13 h13 => ?_)
  obtain ⟨h13, h13s⟩ := h13
  subst h13s
  subst h13
  refine tg_if_eq C 27 dX5_runAt_16 (by decide) 19 rfl (fun c16 => ?_) (fun c16 => ?_)
  · -- to 27
    replace c16 : ¬ inR x (rc n) := (inb_f (by omega)).mp (bI_0.mp c16)
    refine tg_aload_n C dX5_runAt_27 28 rfl rfl 0 rfl ?_
    refine tg_iconst C (nI 1) dX5_runAt_28 29 rfl (by decide) ?_
    refine tg_callVi C 89 (by decide) (e_89 ad cy _) rfl (c_X5_fails l D cy ad hDis σ1 (x := nI 1)) (cwV 1 C.2.2.2.2.1 gX5_runAt_X5_fails rfl rfl rfl (by decide +kernel) ⟨Nat.le_of_ble_eq_true rfl, Nat.le_of_ble_eq_true rfl⟩) rfl rfl (Nat.le_of_ble_eq_true rfl) ⟨Nat.le_of_ble_eq_true rfl, Nat.le_of_ble_eq_true rfl⟩ dX5_runAt_29 32 rfl (fun r29 τ29 h29 => ?_)
    exact hret dX5_runAt_32 (Or.inr ⟨c16, by rw [h29.2, hσ1, su_su]⟩)
  · -- on
    replace c16 : inR x (rc n) := (inb_t (by omega)).mp (bI_n.mp c16)
    obtain ⟨k, hk, hxk⟩ := c16
    subst hxk
    refine tg_aload_n C dX5_runAt_19 20 rfl rfl 0 rfl ?_
    refine tg_iload_n C dX5_runAt_20 21 rfl rfl 1 rfl ?_
    refine tg_callVi C 89 (by decide) (e_89 ad cy _) rfl (c_X5_run l D cy ad hDis σ1 hM1 (k := k) (rc_lt (by omega))) (cwV 1 C.2.2.2.2.1 gX5_runAt_X5_run rfl rfl rfl (by decide +kernel) ⟨Nat.le_of_ble_eq_true rfl, Nat.le_of_ble_eq_true rfl⟩) rfl rfl (Nat.le_of_ble_eq_true rfl) ⟨Nat.le_of_ble_eq_true rfl, Nat.le_of_ble_eq_true rfl⟩ dX5_runAt_21 24 rfl (fun r21 τ21 h21 => ?_)
    obtain ⟨h21, h21s⟩ := h21
    subst h21s
    subst h21
    refine tg_goto C 32 dX5_runAt_24 (by decide) ?_
    exact hret dX5_runAt_32 (Or.inl ⟨k, hk, rfl, rfl, hσ1⟩)
set_option maxHeartbeats 4000000 in
set_option maxRecDepth 100000 in
theorem c_X5_addTongue (l : Launch) (D : va_G) (cy : Nat → ClassId) (ad : Nat → Nat) (hDis : Dis ad) (σ : sS) {n : Nat} {w : Nat → Nat} {tc mg pr tx nx : Nat} {nm wh wd : Nat → Nat} {kp : Nat → Nat → Nat} (hM : MM σ n w tc mg pr tx nx nm wh wd kp) : Mi l yX5_addTongue wsX5_addTongue 0 0 D cy ad [.ref (ad 89)] σ (fun r τ => (tc < 5 ∧ r = nI tc ∧ τ = su (su σ 89 0 (nI 0)) 89 3 (nI (tc + 1))) ∨ (tc = 5 ∧ τ = su σ 89 0 (nI 1))) := by
  have w0 : Cond.fieldLink RX5 38 "TonguetellModel" "tongueMany" "I" ∈ wsX5_addTongue := by decide +kernel
  have w1 : ∀ w ∈ wsX50, w ∈ wsX5_addTongue := by decide +kernel
  have w2 : Cond.fieldLink RX5 35 "TonguetellModel" "thrown" "I" ∈ wsX5_addTongue := by decide +kernel
  have hn16 := hM.1.2.1
  have htc5 := hM.2.1.2.2.2.1
  have htx := hM.2.2.2.2.1
  have hrc := rc_le hn16
  have hrn := hM.rn_lt
  have hwd := hM.wd_le
  have hmg := hM.2.1.2.2.2.2.1
  have hpr := hM.2.1.2.2.2.2.2
  have hnx := hM.2.2.2.2.2.1
  refine Mi.of (cc := cX5_addTongue) (nL := 1) (own := RX5) hDis (by decide) rfl [(0, .ref (ad 89))] rfl (Nat.le_of_ble_eq_true rfl) rfl ?_
  intro p e s m args below meth c A Q C hret
  refine tg_aload_n C dX5_addTongue_0 1 rfl rfl 0 rfl ?_
  refine tg_aload_n C dX5_addTongue_1 2 rfl rfl 0 rfl ?_
  refine tg_get (T := TX5) (N := 13) (Cn := RX5) C 89 (by decide) (e_89 ad cy _) rfl w1 3 (by decide) w0 rfl rfl dX5_addTongue_2 5 rfl ?_
  refine tg_top (y := nI tc) (hM.2.1.1) ?_
  refine tg_iconst C (nI 5) dX5_addTongue_5 6 rfl (by decide) ?_
  refine tg_icmp_ne C 13 dX5_addTongue_6 (by decide) 9 rfl (fun c6 => ?_) (fun c6 => ?_)
  · -- to 13
    replace c6 : ¬ tc = 5 := fun q => c6 ((nI_eq (by omega) (by omega)).mpr q)
    refine tg_iconst C (nI 0) dX5_addTongue_13 14 rfl (by decide) ?_
    refine tg_put (T := TX5) (N := 13) (Cn := RX5) C tyX5 tyX5_ok nmX5 89 (by decide) (e_89 ad cy _) rfl w1 0 (by decide) w2 rfl rfl (by decide +kernel) (Nat.le_of_ble_eq_true rfl) (e_89 ad cy _) dX5_addTongue_14 17 rfl ?_
    refine tg_aload_n C dX5_addTongue_17 18 rfl rfl 0 rfl ?_
    refine tg_get (T := TX5) (N := 13) (Cn := RX5) C 89 (by decide) (e_89 ad cy _) rfl w1 0 (by decide) w2 rfl rfl dX5_addTongue_18 21 rfl ?_
    refine tg_top (y := nI 0) (su_eq _ _ _ _) ?_
    refine tg_if_le C 26 dX5_addTongue_21 (by decide) 24 rfl (fun c21 => ?_) (fun c21 => absurd (by decide) c21)
    refine tg_aload_n C dX5_addTongue_26 27 rfl rfl 0 rfl ?_
    refine tg_dup C dX5_addTongue_27 28 rfl rfl ?_
    refine tg_get (T := TX5) (N := 13) (Cn := RX5) C 89 (by decide) (e_89 ad cy _) rfl w1 3 (by decide) w0 rfl rfl dX5_addTongue_28 31 rfl ?_
    refine tg_top (y := nI tc) ((hM.th (nI 0)).2.1.1) ?_
    refine tg_iconst C (nI 1) dX5_addTongue_31 32 rfl (by decide) ?_
    refine tg_iadd C (nI (tc + 1)) dX5_addTongue_32 33 rfl (nI_add tc 1) ?_
    refine tg_put (T := TX5) (N := 13) (Cn := RX5) C tyX5 tyX5_ok nmX5 89 (by decide) (e_89 ad cy _) rfl w1 3 (by decide) w0 rfl rfl (by decide +kernel) (Nat.le_of_ble_eq_true rfl) (e_89 ad cy _) dX5_addTongue_33 36 rfl ?_
    refine tg_aload_n C dX5_addTongue_36 37 rfl rfl 0 rfl ?_
    refine tg_get (T := TX5) (N := 13) (Cn := RX5) C 89 (by decide) (e_89 ad cy _) rfl w1 3 (by decide) w0 rfl rfl dX5_addTongue_37 40 rfl ?_
    refine tg_top (y := nI (tc + 1)) (su_eq _ _ _ _) ?_
    refine tg_iconst C (nI 1) dX5_addTongue_40 41 rfl (by decide) ?_
    refine tg_isub C (nI tc) dX5_addTongue_41 42 rfl (pk_sub (by omega)) ?_
    exact hret dX5_addTongue_42 (Or.inl ⟨by omega, rfl, rfl⟩)
  · -- on
    replace c6 : tc = 5 := (nI_eq (by omega) (by omega)).mp c6
    refine tg_iconst C (nI 1) dX5_addTongue_9 10 rfl (by decide) ?_
    refine tg_goto C 14 dX5_addTongue_10 (by decide) ?_
    refine tg_put (T := TX5) (N := 13) (Cn := RX5) C tyX5 tyX5_ok nmX5 89 (by decide) (e_89 ad cy _) rfl w1 0 (by decide) w2 rfl rfl (by decide +kernel) (Nat.le_of_ble_eq_true rfl) (e_89 ad cy _) dX5_addTongue_14 17 rfl ?_
    refine tg_aload_n C dX5_addTongue_17 18 rfl rfl 0 rfl ?_
    refine tg_get (T := TX5) (N := 13) (Cn := RX5) C 89 (by decide) (e_89 ad cy _) rfl w1 0 (by decide) w2 rfl rfl dX5_addTongue_18 21 rfl ?_
    refine tg_top (y := nI 1) (su_eq _ _ _ _) ?_
    refine tg_if_le C 26 dX5_addTongue_21 (by decide) 24 rfl (fun c21 => absurd c21 (by decide)) (fun c21 => ?_)
    refine tg_iconst C (nI 0) dX5_addTongue_24 25 rfl (by decide) ?_
    exact hret dX5_addTongue_25 (Or.inr ⟨by omega, rfl⟩)
set_option maxHeartbeats 4000000 in
set_option maxRecDepth 100000 in
theorem c_X5_totalOf (l : Launch) (D : va_G) (cy : Nat → ClassId) (ad : Nat → Nat) (hDis : Dis ad) (σ : sS) {n : Nat} {w : Nat → Nat} {tc mg pr tx nx : Nat} {nm wh wd : Nat → Nat} {kp : Nat → Nat → Nat} (hM : MM σ n w tc mg pr tx nx nm wh wd kp) {t : Nat} (ht : t ≤ 1000) : Mi l yX5_totalOf wsX5_totalOf 0 0 D cy ad [.ref (ad 89), .int (nI t)] σ (fun r τ => r = nI (totN wh wd tx t) ∧ σ = τ) := by
  have w0 : Cond.fieldLink RX5 59 "TonguetellModel" "textMany" "I" ∈ wsX5_totalOf := by decide +kernel
  have w1 : ∀ w ∈ wsX50, w ∈ wsX5_totalOf := by decide +kernel
  have w2 : Cond.fieldLink RX5 23 "TonguetellModel" "whose" "[I" ∈ wsX5_totalOf := by decide +kernel
  have w3 : Cond.fieldLink RX5 26 "TonguetellModel" "wide" "[I" ∈ wsX5_totalOf := by decide +kernel
  have hn16 := hM.1.2.1
  have htc5 := hM.2.1.2.2.2.1
  have htx := hM.2.2.2.2.1
  have hrc := rc_le hn16
  have hrn := hM.rn_lt
  have hwd := hM.wd_le
  have hmg := hM.2.1.2.2.2.2.1
  have hpr := hM.2.1.2.2.2.2.2
  have hnx := hM.2.2.2.2.2.1
  refine Mi.of (cc := cX5_totalOf) (nL := 4) (own := RX5) hDis (by decide) rfl [(0, .ref (ad 89)), (1, .int (nI t))] rfl (Nat.le_of_ble_eq_true rfl) rfl ?_
  intro p e s m args below meth c A Q C hret
  refine tg_iconst C (nI 0) dX5_totalOf_0 1 rfl (by decide) ?_
  refine tg_istore_n C dX5_totalOf_1 2 rfl rfl [(2, .int (nI 0)), (0, .ref (ad 89)), (1, .int (nI t))] (by decide) rfl ?_
  refine tg_iconst C (nI 0) dX5_totalOf_2 3 rfl (by decide) ?_
  refine tg_istore_n C dX5_totalOf_3 4 rfl rfl [(3, .int (nI 0)), (2, .int (nI 0)), (0, .ref (ad 89)), (1, .int (nI t))] (by decide) rfl ?_
  have L4 : ∀ (n4 : Nat) (k a9 : Nat), (k ≤ tx ∧ a9 = totN wh wd k t) → tx - k < n4 → TT p l e (Rm 0 0) s m args below meth c D cy ad A 4 0 0 Q σ 4 [(0, .ref (ad 89)), (1, .int (nI t)), (2, .int (nI a9)), (3, .int (nI k))] [] := by
    intro n4
    induction n4 with
    | zero => intro k a9 _ hn4; exact absurd hn4 (Nat.not_lt_zero _)
    | succ n4 ih4 =>
      intro k a9 ⟨hk, ha⟩ hn4
      refine tg_iload_n C dX5_totalOf_4 5 rfl rfl 3 rfl ?_
      refine tg_aload_n C dX5_totalOf_5 6 rfl rfl 0 rfl ?_
      refine tg_get (T := TX5) (N := 13) (Cn := RX5) C 89 (by decide) (e_89 ad cy _) rfl w1 6 (by decide) w0 rfl rfl dX5_totalOf_6 9 rfl ?_
      refine tg_top (y := nI tx) (hM.2.2.1) ?_
      refine tg_icmp_ge C 41 dX5_totalOf_9 (by decide) 12 rfl (fun c9 => ?_) (fun c9 => ?_)
      · -- to 41
        replace c9 : tx ≤ k := (nI_leI (by omega) (by omega)).mp c9
        refine tg_iload_n C dX5_totalOf_41 42 rfl rfl 2 rfl ?_
        exact hret dX5_totalOf_42 ⟨by rw [ha, show k = tx by omega], rfl⟩
      · -- on
        replace c9 : ¬ tx ≤ k := fun q => c9 ((nI_leI (by omega) (by omega)).mpr q)
        refine tg_iload_n C dX5_totalOf_12 13 rfl rfl 2 rfl ?_
        refine tg_aload_n C dX5_totalOf_13 14 rfl rfl 0 rfl ?_
        refine tg_get (T := TX5) (N := 13) (Cn := RX5) C 89 (by decide) (e_89 ad cy _) rfl w1 9 (by decide) w2 rfl rfl dX5_totalOf_14 17 rfl ?_
        refine tg_iload_n C dX5_totalOf_17 18 rfl rfl 3 rfl ?_
        refine tg_iald C 92 (by decide) ((e_92 ad cy) _) k rfl (by omega) (by decide) dX5_totalOf_18 19 rfl ?_
        refine tg_top (y := nI (wh k)) ((hM.2.2.2.2.2.2 k (by omega)).2.1.1) ?_
        refine tg_iload_n C dX5_totalOf_19 20 rfl rfl 1 rfl ?_
        have hwk := (hM.2.2.2.2.2.2 k (by omega)).2.1.2
        refine tg_icmp_ne C 32 dX5_totalOf_20 (by decide) 23 rfl (fun c20 => ?_) (fun c20 => ?_)
        · -- to 32
          replace c20 : ¬ (wh k) = t := fun q => c20 ((nI_eq (by omega) (by omega)).mpr q)
          refine tg_iconst C (nI 0) dX5_totalOf_32 33 rfl (by decide) ?_
          refine tg_iadd C (nI (a9 + 0)) dX5_totalOf_33 34 rfl (nI_add a9 0) ?_
          refine tg_istore_n C dX5_totalOf_34 35 rfl rfl [(2, .int (nI (a9 + 0))), (0, .ref (ad 89)), (1, .int (nI t)), (3, .int (nI k))] (by decide) rfl ?_
          refine tg_iinc C (nI (k + 1)) dX5_totalOf_35 38 rfl 3 rfl (nI_add k 1) [(3, .int (nI (k + 1))), (2, .int (nI (a9 + 0))), (0, .ref (ad 89)), (1, .int (nI t))] (by decide) rfl ?_
          refine tg_goto C 4 dX5_totalOf_38 (by decide) ?_
          refine tg_sub [2, 3, 1, 0] rfl ?_
          exact ih4 (k + 1) (a9 + 0) ⟨by omega, by show _ = totN wh wd k t + (if wh k = t then wd k else 0); rw [if_neg c20, ha]⟩ (by omega)
        · -- on
          replace c20 : (wh k) = t := (nI_eq (by omega) (by omega)).mp c20
          refine tg_aload_n C dX5_totalOf_23 24 rfl rfl 0 rfl ?_
          refine tg_get (T := TX5) (N := 13) (Cn := RX5) C 89 (by decide) (e_89 ad cy _) rfl w1 10 (by decide) w3 rfl rfl dX5_totalOf_24 27 rfl ?_
          refine tg_iload_n C dX5_totalOf_27 28 rfl rfl 3 rfl ?_
          refine tg_iald C 93 (by decide) ((e_93 ad cy) _) k rfl (by omega) (by decide) dX5_totalOf_28 29 rfl ?_
          refine tg_top (y := nI (wd k)) ((hM.2.2.2.2.2.2 k (by omega)).2.2.1.1) ?_
          refine tg_goto C 33 dX5_totalOf_29 (by decide) ?_
          refine tg_iadd C (nI (a9 + (wd k))) dX5_totalOf_33 34 rfl (nI_add a9 (wd k)) ?_
          refine tg_istore_n C dX5_totalOf_34 35 rfl rfl [(2, .int (nI (a9 + (wd k)))), (0, .ref (ad 89)), (1, .int (nI t)), (3, .int (nI k))] (by decide) rfl ?_
          refine tg_iinc C (nI (k + 1)) dX5_totalOf_35 38 rfl 3 rfl (nI_add k 1) [(3, .int (nI (k + 1))), (2, .int (nI (a9 + (wd k)))), (0, .ref (ad 89)), (1, .int (nI t))] (by decide) rfl ?_
          refine tg_goto C 4 dX5_totalOf_38 (by decide) ?_
          refine tg_sub [2, 3, 1, 0] rfl ?_
          exact ih4 (k + 1) (a9 + (wd k)) ⟨by omega, by show _ = totN wh wd k t + (if wh k = t then wd k else 0); rw [if_pos c20, ha]⟩ (by omega)
  refine tg_sub [2, 3, 1, 0] rfl ?_
  exact L4 _ 0 0 ⟨by omega, rfl⟩ (Nat.lt_succ_self _)
set_option maxHeartbeats 4000000 in
set_option maxRecDepth 100000 in
theorem c_X5_countOf (l : Launch) (D : va_G) (cy : Nat → ClassId) (ad : Nat → Nat) (hDis : Dis ad) (σ : sS) {n : Nat} {w : Nat → Nat} {tc mg pr tx nx : Nat} {nm wh wd : Nat → Nat} {kp : Nat → Nat → Nat} (hM : MM σ n w tc mg pr tx nx nm wh wd kp) {t r9 : Nat} (ht : t ≤ 1000) (hr9 : r9 ≤ 1000) : Mi l yX5_countOf wsX5_countOf 0 0 D cy ad [.ref (ad 89), .int (nI t), .int (nI r9)] σ (fun r τ => r = nI (cntN wh wd kp tx t r9) ∧ σ = τ) := by
  have w0 : Cond.fieldLink RX5 59 "TonguetellModel" "textMany" "I" ∈ wsX5_countOf := by decide +kernel
  have w1 : ∀ w ∈ wsX50, w ∈ wsX5_countOf := by decide +kernel
  have w2 : Cond.fieldLink RX5 26 "TonguetellModel" "wide" "[I" ∈ wsX5_countOf := by decide +kernel
  have w3 : Cond.fieldLink RX5 23 "TonguetellModel" "whose" "[I" ∈ wsX5_countOf := by decide +kernel
  have w4 : Cond.fieldLink RX5 29 "TonguetellModel" "kept" "[I" ∈ wsX5_countOf := by decide +kernel
  have hn16 := hM.1.2.1
  have htc5 := hM.2.1.2.2.2.1
  have htx := hM.2.2.2.2.1
  have hrc := rc_le hn16
  have hrn := hM.rn_lt
  have hwd := hM.wd_le
  have hmg := hM.2.1.2.2.2.2.1
  have hpr := hM.2.1.2.2.2.2.2
  have hnx := hM.2.2.2.2.2.1
  refine Mi.of (cc := cX5_countOf) (nL := 6) (own := RX5) hDis (by decide) rfl [(0, .ref (ad 89)), (1, .int (nI t)), (2, .int (nI r9))] rfl (Nat.le_of_ble_eq_true rfl) rfl ?_
  intro p e s m args below meth c A Q C hret
  refine tg_iconst C (nI 0) dX5_countOf_0 1 rfl (by decide) ?_
  refine tg_istore_n C dX5_countOf_1 2 rfl rfl [(3, .int (nI 0)), (0, .ref (ad 89)), (1, .int (nI t)), (2, .int (nI r9))] (by decide) rfl ?_
  refine tg_iconst C (nI 0) dX5_countOf_2 3 rfl (by decide) ?_
  refine tg_istore C dX5_countOf_3 5 rfl [(4, .int (nI 0)), (3, .int (nI 0)), (0, .ref (ad 89)), (1, .int (nI t)), (2, .int (nI r9))] (by decide) rfl ?_
  have L5 : ∀ (n5 : Nat) (k a9 : Nat), (k ≤ tx ∧ a9 = cntN wh wd kp k t r9) → tx - k < n5 → TT p l e (Rm 0 0) s m args below meth c D cy ad A 6 0 0 Q σ 5 [(0, .ref (ad 89)), (1, .int (nI t)), (2, .int (nI r9)), (3, .int (nI a9)), (4, .int (nI k))] [] := by
    intro n5
    induction n5 with
    | zero => intro k a9 _ hn5; exact absurd hn5 (Nat.not_lt_zero _)
    | succ n5 ih5 =>
      intro k a9 ⟨hk, ha⟩ hn5
      refine tg_iload C dX5_countOf_5 7 rfl 4 rfl ?_
      refine tg_aload_n C dX5_countOf_7 8 rfl rfl 0 rfl ?_
      refine tg_get (T := TX5) (N := 13) (Cn := RX5) C 89 (by decide) (e_89 ad cy _) rfl w1 6 (by decide) w0 rfl rfl dX5_countOf_8 11 rfl ?_
      refine tg_top (y := nI tx) (hM.2.2.1) ?_
      refine tg_icmp_ge C 77 dX5_countOf_11 (by decide) 14 rfl (fun c11 => ?_) (fun c11 => ?_)
      · -- to 77
        replace c11 : tx ≤ k := (nI_leI (by omega) (by omega)).mp c11
        refine tg_iload_n C dX5_countOf_77 78 rfl rfl 3 rfl ?_
        exact hret dX5_countOf_78 ⟨by rw [ha, show k = tx by omega], rfl⟩
      · -- on
        replace c11 : ¬ tx ≤ k := fun q => c11 ((nI_leI (by omega) (by omega)).mpr q)
        refine tg_iconst C (nI 0) dX5_countOf_14 15 rfl (by decide) ?_
        refine tg_istore C dX5_countOf_15 17 rfl [(5, .int (nI 0)), (0, .ref (ad 89)), (1, .int (nI t)), (2, .int (nI r9)), (3, .int (nI a9)), (4, .int (nI k))] (by decide) rfl ?_
        have L17 : ∀ (n17 : Nat) (j v9 : Nat), (j ≤ wd k ∧ v9 = a9 + (if wh k = t then cntF (kp k) j r9 else 0)) → wd k - j < n17 → TT p l e (Rm 0 0) s m args below meth c D cy ad A 6 0 0 Q σ 17 [(0, .ref (ad 89)), (1, .int (nI t)), (2, .int (nI r9)), (3, .int (nI v9)), (4, .int (nI k)), (5, .int (nI j))] [] := by
          intro n17
          induction n17 with
          | zero => intro j v9 _ hn17; exact absurd hn17 (Nat.not_lt_zero _)
          | succ n17 ih17 =>
            intro j v9 ⟨hj, hv⟩ hn17
            have hwk := (hM.2.2.2.2.2.2 k (by omega)).2.1.2
            have hdk := hwd k (by omega)
            refine tg_iload C dX5_countOf_17 19 rfl 5 rfl ?_
            refine tg_aload_n C dX5_countOf_19 20 rfl rfl 0 rfl ?_
            refine tg_get (T := TX5) (N := 13) (Cn := RX5) C 89 (by decide) (e_89 ad cy _) rfl w1 10 (by decide) w2 rfl rfl dX5_countOf_20 23 rfl ?_
            refine tg_iload C dX5_countOf_23 25 rfl 4 rfl ?_
            refine tg_iald C 93 (by decide) ((e_93 ad cy) _) k rfl (by omega) (by decide) dX5_countOf_25 26 rfl ?_
            refine tg_top (y := nI (wd k)) ((hM.2.2.2.2.2.2 k (by omega)).2.2.1.1) ?_
            refine tg_icmp_ge C 71 dX5_countOf_26 (by decide) 29 rfl (fun c26 => ?_) (fun c26 => ?_)
            · -- to 71
              replace c26 : (wd k) ≤ j := (nI_leI (by omega) (by omega)).mp c26
              refine tg_iinc C (nI (k + 1)) dX5_countOf_71 74 rfl 4 rfl (nI_add k 1) [(4, .int (nI (k + 1))), (0, .ref (ad 89)), (1, .int (nI t)), (2, .int (nI r9)), (3, .int (nI v9)), (5, .int (nI j))] (by decide) rfl ?_
              refine tg_goto C 5 dX5_countOf_74 (by decide) ?_
              refine tg_sub [1, 2, 3, 4, 0] rfl ?_
              exact ih5 (k + 1) v9 ⟨by omega, by show _ = cntN wh wd kp k t r9 + (if wh k = t then cntF (kp k) (wd k) r9 else 0); rw [hv, ha]; first | (rw [if_neg c37, if_neg c37]; done) | rw [show j = wd k by omega]⟩ (by omega)
            · -- on
              replace c26 : ¬ (wd k) ≤ j := fun q => c26 ((nI_leI (by omega) (by omega)).mpr q)
              refine tg_aload_n C dX5_countOf_29 30 rfl rfl 0 rfl ?_
              refine tg_get (T := TX5) (N := 13) (Cn := RX5) C 89 (by decide) (e_89 ad cy _) rfl w1 9 (by decide) w3 rfl rfl dX5_countOf_30 33 rfl ?_
              refine tg_iload C dX5_countOf_33 35 rfl 4 rfl ?_
              refine tg_iald C 92 (by decide) ((e_92 ad cy) _) k rfl (by omega) (by decide) dX5_countOf_35 36 rfl ?_
              refine tg_top (y := nI (wh k)) ((hM.2.2.2.2.2.2 k (by omega)).2.1.1) ?_
              refine tg_iload_n C dX5_countOf_36 37 rfl rfl 1 rfl ?_
              refine tg_icmp_ne C 71 dX5_countOf_37 (by decide) 40 rfl (fun c37 => ?_) (fun c37 => ?_)
              · -- to 71
                replace c37 : ¬ (wh k) = t := fun q => c37 ((nI_eq (by omega) (by omega)).mpr q)
                refine tg_iinc C (nI (k + 1)) dX5_countOf_71 74 rfl 4 rfl (nI_add k 1) [(4, .int (nI (k + 1))), (0, .ref (ad 89)), (1, .int (nI t)), (2, .int (nI r9)), (3, .int (nI v9)), (5, .int (nI j))] (by decide) rfl ?_
                refine tg_goto C 5 dX5_countOf_74 (by decide) ?_
                refine tg_sub [1, 2, 3, 4, 0] rfl ?_
                exact ih5 (k + 1) v9 ⟨by omega, by show _ = cntN wh wd kp k t r9 + (if wh k = t then cntF (kp k) (wd k) r9 else 0); rw [hv, ha]; first | (rw [if_neg c37, if_neg c37]; done) | rw [show j = wd k by omega]⟩ (by omega)
              · -- on
                replace c37 : (wh k) = t := (nI_eq (by omega) (by omega)).mp c37
                refine tg_iload_n C dX5_countOf_40 41 rfl rfl 3 rfl ?_
                refine tg_aload_n C dX5_countOf_41 42 rfl rfl 0 rfl ?_
                refine tg_get (T := TX5) (N := 13) (Cn := RX5) C 89 (by decide) (e_89 ad cy _) rfl w1 11 (by decide) w4 rfl rfl dX5_countOf_42 45 rfl ?_
                refine tg_bipush C (nI 17) dX5_countOf_45 47 rfl (by decide) ?_
                refine tg_iload C dX5_countOf_47 49 rfl 4 rfl ?_
                refine tg_imul C (nI (17 * k)) dX5_countOf_49 50 rfl (pk_mul 17 k) ?_
                refine tg_iload C dX5_countOf_50 52 rfl 5 rfl ?_
                refine tg_iadd C (nI ((17 * k) + j)) dX5_countOf_52 53 rfl (nI_add (17 * k) j) ?_
                refine tg_iald C 94 (by decide) ((e_94 ad cy) _) ((17 * k) + j) rfl (by omega) (by decide) dX5_countOf_53 54 rfl ?_
                refine tg_top (y := nI (kp k j)) (((hM.2.2.2.2.2.2 k (by omega)).2.2.2 j (by omega)).1) ?_
                refine tg_iload_n C dX5_countOf_54 55 rfl rfl 2 rfl ?_
                have hkp := ((hM.2.2.2.2.2.2 k (by omega)).2.2.2 j (by omega)).2
                refine tg_icmp_ne C 62 dX5_countOf_55 (by decide) 58 rfl (fun c55 => ?_) (fun c55 => ?_)
                · -- to 62
                  replace c55 : ¬ (kp k j) = r9 := fun q => c55 ((nI_eq (by omega) (by omega)).mpr q)
                  refine tg_iconst C (nI 0) dX5_countOf_62 63 rfl (by decide) ?_
                  refine tg_iadd C (nI (v9 + 0)) dX5_countOf_63 64 rfl (nI_add v9 0) ?_
                  refine tg_istore_n C dX5_countOf_64 65 rfl rfl [(3, .int (nI (v9 + 0))), (0, .ref (ad 89)), (1, .int (nI t)), (2, .int (nI r9)), (4, .int (nI k)), (5, .int (nI j))] (by decide) rfl ?_
                  refine tg_iinc C (nI (j + 1)) dX5_countOf_65 68 rfl 5 rfl (nI_add j 1) [(5, .int (nI (j + 1))), (3, .int (nI (v9 + 0))), (0, .ref (ad 89)), (1, .int (nI t)), (2, .int (nI r9)), (4, .int (nI k))] (by decide) rfl ?_
                  refine tg_goto C 17 dX5_countOf_68 (by decide) ?_
                  refine tg_sub [2, 3, 4, 1, 5, 0] rfl ?_
                  exact ih17 (j + 1) (v9 + 0) ⟨by omega, by rw [hv, if_pos c37, if_pos c37, cntF_step, if_neg c55]; omega⟩ (by omega)
                · -- on
                  replace c55 : (kp k j) = r9 := (nI_eq (by omega) (by omega)).mp c55
                  refine tg_iconst C (nI 1) dX5_countOf_58 59 rfl (by decide) ?_
                  refine tg_goto C 63 dX5_countOf_59 (by decide) ?_
                  refine tg_iadd C (nI (v9 + 1)) dX5_countOf_63 64 rfl (nI_add v9 1) ?_
                  refine tg_istore_n C dX5_countOf_64 65 rfl rfl [(3, .int (nI (v9 + 1))), (0, .ref (ad 89)), (1, .int (nI t)), (2, .int (nI r9)), (4, .int (nI k)), (5, .int (nI j))] (by decide) rfl ?_
                  refine tg_iinc C (nI (j + 1)) dX5_countOf_65 68 rfl 5 rfl (nI_add j 1) [(5, .int (nI (j + 1))), (3, .int (nI (v9 + 1))), (0, .ref (ad 89)), (1, .int (nI t)), (2, .int (nI r9)), (4, .int (nI k))] (by decide) rfl ?_
                  refine tg_goto C 17 dX5_countOf_68 (by decide) ?_
                  refine tg_sub [2, 3, 4, 1, 5, 0] rfl ?_
                  exact ih17 (j + 1) (v9 + 1) ⟨by omega, by rw [hv, if_pos c37, if_pos c37, cntF_step, if_pos c55]; omega⟩ (by omega)
        refine tg_sub [1, 2, 3, 4, 5, 0] rfl ?_
        exact L17 _ 0 a9 ⟨by omega, by split <;> rfl⟩ (Nat.lt_succ_self _)
  refine tg_sub [2, 3, 4, 1, 0] rfl ?_
  exact L5 _ 0 0 ⟨by omega, rfl⟩ (Nat.lt_succ_self _)
set_option maxHeartbeats 4000000 in
set_option maxRecDepth 100000 in
theorem c_X5_costOf (l : Launch) (D : va_G) (cy : Nat → ClassId) (ad : Nat → Nat) (hDis : Dis ad) (σ : sS) {n : Nat} {w : Nat → Nat} {tc mg pr tx nx : Nat} {nm wh wd : Nat → Nat} {kp : Nat → Nat → Nat} (hM : MM σ n w tc mg pr tx nx nm wh wd kp) {t r9 : Nat} (ht : t ≤ 1000) (hr9 : r9 ≤ 1000) : Mi l yX5_costOf wsX5_costOf 1 25 D cy ad [.ref (ad 89), .int (nI t), .int (nI r9)] σ (fun r τ => r = nI (costN (cntN wh wd kp tx t r9) (totN wh wd tx t)) ∧ σ = τ) := by
  have hn16 := hM.1.2.1
  have htc5 := hM.2.1.2.2.2.1
  have htx := hM.2.2.2.2.1
  have hrc := rc_le hn16
  have hrn := hM.rn_lt
  have hwd := hM.wd_le
  have hmg := hM.2.1.2.2.2.2.1
  have hpr := hM.2.1.2.2.2.2.2
  have hnx := hM.2.2.2.2.2.1
  have hcc := cntN_le (kp := kp) (wh := wh) htx hwd t r9
  have htt := totN_le (wh := wh) htx hwd t
  refine Mi.of (cc := cX5_costOf) (nL := 6) (own := RX5) hDis (by decide) rfl [(0, .ref (ad 89)), (1, .int (nI t)), (2, .int (nI r9))] rfl (Nat.le_of_ble_eq_true rfl) rfl ?_
  intro p e s m args below meth c A Q C hret
  refine tg_aload_n C dX5_costOf_0 1 rfl rfl 0 rfl ?_
  refine tg_iload_n C dX5_costOf_1 2 rfl rfl 1 rfl ?_
  refine tg_iload_n C dX5_costOf_2 3 rfl rfl 2 rfl ?_
  refine tg_callVi C 89 (by decide) (e_89 ad cy _) rfl (c_X5_countOf l D cy ad hDis σ hM (t := t) (r9 := r9) (by omega) (by omega)) (cwV 2 C.2.2.2.2.1 gX5_costOf_X5_countOf rfl rfl rfl (by decide +kernel) ⟨Nat.le_of_ble_eq_true rfl, Nat.le_of_ble_eq_true rfl⟩) rfl rfl (Nat.le_of_ble_eq_true rfl) ⟨Nat.le_of_ble_eq_true rfl, Nat.le_of_ble_eq_true rfl⟩ dX5_costOf_3 6 rfl (fun r3 τ3 h3 => ?_)
  obtain ⟨h3, h3s⟩ := h3
  subst h3s
  subst h3
  refine tg_iconst C (nI 1) dX5_costOf_6 7 rfl (by decide) ?_
  refine tg_iadd C (nI ((cntN wh wd kp tx t r9) + 1)) dX5_costOf_7 8 rfl (nI_add (cntN wh wd kp tx t r9) 1) ?_
  refine tg_istore_n C dX5_costOf_8 9 rfl rfl [(3, .int (nI ((cntN wh wd kp tx t r9) + 1))), (0, .ref (ad 89)), (1, .int (nI t)), (2, .int (nI r9))] (by decide) rfl ?_
  refine tg_aload_n C dX5_costOf_9 10 rfl rfl 1 rfl ?_
  refine tg_iload_n C dX5_costOf_10 11 rfl rfl 2 rfl ?_
  refine tg_callVi C 89 (by decide) (e_89 ad cy _) rfl (c_X5_totalOf l D cy ad hDis σ hM (t := t) (by omega)) (cwV 1 C.2.2.2.2.1 gX5_costOf_X5_totalOf rfl rfl rfl (by decide +kernel) ⟨Nat.le_of_ble_eq_true rfl, Nat.le_of_ble_eq_true rfl⟩) rfl rfl (Nat.le_of_ble_eq_true rfl) ⟨Nat.le_of_ble_eq_true rfl, Nat.le_of_ble_eq_true rfl⟩ dX5_costOf_11 14 rfl (fun r11 τ11 h11 => ?_)
  obtain ⟨h11, h11s⟩ := h11
  subst h11s
  subst h11
  refine tg_bipush C (nI 36) dX5_costOf_14 16 rfl (by decide) ?_
  refine tg_iadd C (nI ((totN wh wd tx t) + 36)) dX5_costOf_16 17 rfl (nI_add (totN wh wd tx t) 36) ?_
  refine tg_istore C dX5_costOf_17 19 rfl [(4, .int (nI ((totN wh wd tx t) + 36))), (3, .int (nI ((cntN wh wd kp tx t r9) + 1))), (0, .ref (ad 89)), (1, .int (nI t)), (2, .int (nI r9))] (by decide) rfl ?_
  refine tg_iconst C (nI 0) dX5_costOf_19 20 rfl (by decide) ?_
  refine tg_istore C dX5_costOf_20 22 rfl [(5, .int (nI 0)), (4, .int (nI ((totN wh wd tx t) + 36))), (3, .int (nI ((cntN wh wd kp tx t r9) + 1))), (0, .ref (ad 89)), (1, .int (nI t)), (2, .int (nI r9))] (by decide) rfl ?_
  have L22 : ∀ (n22 : Nat) (k f its : Nat), (k + f = 10 ∧ totN wh wd tx t + 36 ≤ its * 2 ^ f ∧ its ≤ 2000 ∧ costN (cntN wh wd kp tx t r9) (totN wh wd tx t) = k + dbl f its (totN wh wd tx t + 36)) → f < n22 → TT p l e (Rm 1 25) s m args below meth c D cy ad A 6 0 0 Q σ 22 [(0, .ref (ad 89)), (1, .int (nI t)), (2, .int (nI r9)), (3, .int (nI its)), (4, .int (nI (totN wh wd tx t + 36))), (5, .int (nI k))] [] := by
    intro n22
    induction n22 with
    | zero => intro k f its _ hn22; exact absurd hn22 (Nat.not_lt_zero _)
    | succ n22 ih22 =>
      intro k f its ⟨hk, hb, hi, he⟩ hn22
      refine tg_iload_n C dX5_costOf_22 23 rfl rfl 3 rfl ?_
      refine tg_iload C dX5_costOf_23 25 rfl 4 rfl ?_
      refine tg_icmp_ge C 38 dX5_costOf_25 (by decide) 28 rfl (fun c25 => ?_) (fun c25 => ?_)
      · -- to 38
        replace c25 : (totN wh wd tx t + 36) ≤ its := (nI_leI (by omega) (by omega)).mp c25
        refine tg_iload C dX5_costOf_38 40 rfl 5 rfl ?_
        exact hret dX5_costOf_40 ⟨by rw [he]; cases f with | zero => rfl | succ g => rw [dbl, if_neg (by omega)]; rfl, rfl⟩
      · -- on
        replace c25 : ¬ (totN wh wd tx t + 36) ≤ its := fun q => c25 ((nI_leI (by omega) (by omega)).mpr q)
        refine tg_iload_n C dX5_costOf_28 29 rfl rfl 3 rfl ?_
        refine tg_iconst C (nI 2) dX5_costOf_29 30 rfl (by decide) ?_
        refine tg_imul C (nI (its * 2)) dX5_costOf_30 31 rfl (pk_mul its 2) ?_
        refine tg_istore_n C dX5_costOf_31 32 rfl rfl [(3, .int (nI (its * 2))), (0, .ref (ad 89)), (1, .int (nI t)), (2, .int (nI r9)), (4, .int (nI (totN wh wd tx t + 36))), (5, .int (nI k))] (by decide) rfl ?_
        refine tg_iinc C (nI (k + 1)) dX5_costOf_32 35 rfl 5 rfl (nI_add k 1) [(5, .int (nI (k + 1))), (3, .int (nI (its * 2))), (0, .ref (ad 89)), (1, .int (nI t)), (2, .int (nI r9)), (4, .int (nI (totN wh wd tx t + 36)))] (by decide) rfl ?_
        refine tg_goto C 22 dX5_costOf_35 (by decide) ?_
        refine tg_sub [2, 3, 4, 1, 5, 0] rfl ?_
        obtain ⟨f, rfl⟩ : ∃ g, f = g + 1 := by
          cases f with
          | zero => rw [Nat.pow_zero, Nat.mul_one] at hb; omega
          | succ g => exact ⟨g, rfl⟩
        exact ih22 (k + 1) f (its * 2) ⟨by omega, by rw [Nat.mul_assoc, ← Nat.pow_succ']; exact hb, by omega, by rw [he, dbl, if_pos (by omega)]; omega⟩ (by omega)
  refine tg_sub [3, 4, 5, 2, 1, 0] rfl ?_
  exact L22 _ 0 10 (cntN wh wd kp tx t r9 + 1) ⟨rfl, by omega, by omega, by simp [costN]⟩ (Nat.lt_succ_self _)
set_option maxHeartbeats 4000000 in
set_option maxRecDepth 100000 in
theorem c_X5_rankOf (l : Launch) (D : va_G) (cy : Nat → ClassId) (ad : Nat → Nat) (hDis : Dis ad) (σ : sS) {n : Nat} {w : Nat → Nat} {tc mg pr tx nx : Nat} {nm wh wd : Nat → Nat} {kp : Nat → Nat → Nat} (hM : MM σ n w tc mg pr tx nx nm wh wd kp) {t r9 : Nat} (ht : t ≤ 1000) (hr9 : r9 ≤ 1000) : Mi l yX5_rankOf wsX5_rankOf 1 25 D cy ad [.ref (ad 89), .int (nI t), .int (nI r9)] σ (fun r τ => r = rkI (cntN wh wd kp tx t) r9 ∧ σ = τ) := by
  have hn16 := hM.1.2.1
  have htc5 := hM.2.1.2.2.2.1
  have htx := hM.2.2.2.2.1
  have hrc := rc_le hn16
  have hrn := hM.rn_lt
  have hwd := hM.wd_le
  have hmg := hM.2.1.2.2.2.2.1
  have hpr := hM.2.1.2.2.2.2.2
  have hnx := hM.2.2.2.2.2.1
  have hcc := cntN_le (kp := kp) (wh := wh) htx hwd t
  refine Mi.of (cc := cX5_rankOf) (nL := 7) (own := RX5) hDis (by decide) rfl [(0, .ref (ad 89)), (1, .int (nI t)), (2, .int (nI r9))] rfl (Nat.le_of_ble_eq_true rfl) rfl ?_
  intro p e s m args below meth c A Q C hret
  refine tg_aload_n C dX5_rankOf_0 1 rfl rfl 0 rfl ?_
  refine tg_iload_n C dX5_rankOf_1 2 rfl rfl 1 rfl ?_
  refine tg_iload_n C dX5_rankOf_2 3 rfl rfl 2 rfl ?_
  refine tg_callVi C 89 (by decide) (e_89 ad cy _) rfl (c_X5_countOf l D cy ad hDis σ hM (t := t) (r9 := r9) (by omega) (by omega)) (cwV 2 C.2.2.2.2.1 gX5_rankOf_X5_countOf rfl rfl rfl (by decide +kernel) ⟨Nat.le_of_ble_eq_true rfl, Nat.le_of_ble_eq_true rfl⟩) rfl rfl (Nat.le_of_ble_eq_true rfl) ⟨Nat.le_of_ble_eq_true rfl, Nat.le_of_ble_eq_true rfl⟩ dX5_rankOf_3 6 rfl (fun r3 τ3 h3 => ?_)
  obtain ⟨h3, h3s⟩ := h3
  subst h3s
  subst h3
  have hc1 := hcc r9
  refine tg_istore_n C dX5_rankOf_6 7 rfl rfl [(3, .int (nI (cntN wh wd kp tx t r9))), (0, .ref (ad 89)), (1, .int (nI t)), (2, .int (nI r9))] (by decide) rfl ?_
  refine tg_iconst C (nI 0) dX5_rankOf_7 8 rfl (by decide) ?_
  refine tg_istore C dX5_rankOf_8 10 rfl [(4, .int (nI 0)), (3, .int (nI (cntN wh wd kp tx t r9))), (0, .ref (ad 89)), (1, .int (nI t)), (2, .int (nI r9))] (by decide) rfl ?_
  refine tg_iconst C (nI 0) dX5_rankOf_10 11 rfl (by decide) ?_
  refine tg_istore C dX5_rankOf_11 13 rfl [(5, .int (nI 0)), (4, .int (nI 0)), (3, .int (nI (cntN wh wd kp tx t r9))), (0, .ref (ad 89)), (1, .int (nI t)), (2, .int (nI r9))] (by decide) rfl ?_
  have L13 : ∀ (n13 : Nat) (o a9 : Nat), (o ≤ 36 ∧ a9 = sm (ahd (cntN wh wd kp tx t) r9) o) → 36 - o < n13 → TT p l e (Rm 1 25) s m args below meth c D cy ad A 7 0 0 Q σ 13 [(0, .ref (ad 89)), (1, .int (nI t)), (2, .int (nI r9)), (3, .int (nI (cntN wh wd kp tx t r9))), (4, .int (nI a9)), (5, .int (nI o))] [] := by
    intro n13
    induction n13 with
    | zero => intro o a9 _ hn13; exact absurd hn13 (Nat.not_lt_zero _)
    | succ n13 ih13 =>
      intro o a9 ⟨ho, ha⟩ hn13
      refine tg_iload C dX5_rankOf_13 15 rfl 5 rfl ?_
      refine tg_bipush C (nI 36) dX5_rankOf_15 17 rfl (by decide) ?_
      refine tg_icmp_ge C 63 dX5_rankOf_17 (by decide) 20 rfl (fun c17 => ?_) (fun c17 => ?_)
      · -- to 63
        replace c17 : 36 ≤ o := (nI_leI (by omega) (by omega)).mp c17
        refine tg_iload_n C dX5_rankOf_63 64 rfl rfl 3 rfl ?_
        refine tg_if_ne C 71 dX5_rankOf_64 (by decide) 67 rfl (fun c64 => ?_) (fun c64 => ?_)
        · -- to 71
          replace c64 : ¬ (cntN wh wd kp tx t r9) = 0 := fun q => c64 ((z_eq (by omega)).mpr q)
          refine tg_iload C dX5_rankOf_71 73 rfl 4 rfl ?_
          exact hret dX5_rankOf_73 ⟨by first | (unfold rkI; rw [if_neg c64, ha, show o = 36 by omega]; rfl) | (unfold rkI; rw [if_pos c64]), rfl⟩
        · -- on
          replace c64 : (cntN wh wd kp tx t r9) = 0 := (z_eq (by omega)).mp c64
          refine tg_iconst C (-1) dX5_rankOf_67 68 rfl (by decide) ?_
          refine tg_goto C 73 dX5_rankOf_68 (by decide) ?_
          exact hret dX5_rankOf_73 ⟨by first | (unfold rkI; rw [if_neg c64, ha, show o = 36 by omega]; rfl) | (unfold rkI; rw [if_pos c64]), rfl⟩
      · -- on
        replace c17 : ¬ 36 ≤ o := fun q => c17 ((nI_leI (by omega) (by omega)).mpr q)
        refine tg_aload_n C dX5_rankOf_20 21 rfl rfl 0 rfl ?_
        refine tg_iload_n C dX5_rankOf_21 22 rfl rfl 1 rfl ?_
        refine tg_iload C dX5_rankOf_22 24 rfl 5 rfl ?_
        refine tg_callVi C 89 (by decide) (e_89 ad cy _) rfl (c_X5_countOf l D cy ad hDis σ hM (t := t) (r9 := o) (by omega) (by omega)) (cwV 2 C.2.2.2.2.1 gX5_rankOf_X5_countOf rfl rfl rfl (by decide +kernel) ⟨Nat.le_of_ble_eq_true rfl, Nat.le_of_ble_eq_true rfl⟩) rfl rfl (Nat.le_of_ble_eq_true rfl) ⟨Nat.le_of_ble_eq_true rfl, Nat.le_of_ble_eq_true rfl⟩ dX5_rankOf_24 27 rfl (fun r24 τ24 h24 => ?_)
        obtain ⟨h24, h24s⟩ := h24
        subst h24s
        subst h24
        have hc2 := hcc o
        refine tg_istore C dX5_rankOf_27 29 rfl [(6, .int (nI (cntN wh wd kp tx t o))), (0, .ref (ad 89)), (1, .int (nI t)), (2, .int (nI r9)), (3, .int (nI (cntN wh wd kp tx t r9))), (4, .int (nI a9)), (5, .int (nI o))] (by decide) rfl ?_
        refine tg_iload C dX5_rankOf_29 31 rfl 5 rfl ?_
        refine tg_iload C dX5_rankOf_31 33 rfl 0 rfl ?_
        refine tg_iload_n C dX5_rankOf_33 34 rfl rfl 4 rfl ?_
        refine tg_icmp_gt C 49 dX5_rankOf_34 (by decide) 37 rfl (fun c34 => ?_) (fun c34 => ?_)
        · -- to 49
          replace c34 : (cntN wh wd kp tx t r9) < (cntN wh wd kp tx t o) := (nI_ltI (by omega) (by omega)).mp c34
          refine tg_iconst C (nI 1) dX5_rankOf_49 50 rfl (by decide) ?_
          refine tg_goto C 54 dX5_rankOf_50 (by decide) ?_
          refine tg_iadd C (nI (a9 + 1)) dX5_rankOf_54 55 rfl (nI_add a9 1) ?_
          refine tg_istore C dX5_rankOf_55 57 rfl [(4, .int (nI (a9 + 1))), (6, .int (nI (cntN wh wd kp tx t o))), (0, .ref (ad 89)), (1, .int (nI t)), (2, .int (nI r9)), (3, .int (nI (cntN wh wd kp tx t r9))), (5, .int (nI o))] (by decide) rfl ?_
          refine tg_iinc C (nI (o + 1)) dX5_rankOf_57 60 rfl 6 rfl (nI_add o 1) [(5, .int (nI (o + 1))), (4, .int (nI (a9 + 1))), (6, .int (nI (cntN wh wd kp tx t o))), (0, .ref (ad 89)), (1, .int (nI t)), (2, .int (nI r9)), (3, .int (nI (cntN wh wd kp tx t r9)))] (by decide) rfl ?_
          refine tg_goto C 13 dX5_rankOf_60 (by decide) ?_
          refine tg_sub [3, 4, 5, 6, 1, 0] rfl ?_
          exact ih13 (o + 1) (a9 + 1) ⟨by omega, by show _ = sm (ahd (cntN wh wd kp tx t) r9) o + ahd (cntN wh wd kp tx t) r9 o; rw [show ahd (cntN wh wd kp tx t) r9 o = 1 from if_pos (by omega)]; omega⟩ (by omega)
        · -- on
          replace c34 : ¬ (cntN wh wd kp tx t r9) < (cntN wh wd kp tx t o) := fun q => c34 ((nI_ltI (by omega) (by omega)).mpr q)
          refine tg_iload C dX5_rankOf_37 39 rfl 0 rfl ?_
          refine tg_iload_n C dX5_rankOf_39 40 rfl rfl 4 rfl ?_
          refine tg_icmp_ne C 53 dX5_rankOf_40 (by decide) 43 rfl (fun c40 => ?_) (fun c40 => ?_)
          · -- to 53
            replace c40 : ¬ (cntN wh wd kp tx t o) = (cntN wh wd kp tx t r9) := fun q => c40 ((nI_eq (by omega) (by omega)).mpr q)
            refine tg_iconst C (nI 0) dX5_rankOf_53 54 rfl (by decide) ?_
            refine tg_iadd C (nI (a9 + 0)) dX5_rankOf_54 55 rfl (nI_add a9 0) ?_
            refine tg_istore C dX5_rankOf_55 57 rfl [(4, .int (nI (a9 + 0))), (6, .int (nI (cntN wh wd kp tx t o))), (0, .ref (ad 89)), (1, .int (nI t)), (2, .int (nI r9)), (3, .int (nI (cntN wh wd kp tx t r9))), (5, .int (nI o))] (by decide) rfl ?_
            refine tg_iinc C (nI (o + 1)) dX5_rankOf_57 60 rfl 6 rfl (nI_add o 1) [(5, .int (nI (o + 1))), (4, .int (nI (a9 + 0))), (6, .int (nI (cntN wh wd kp tx t o))), (0, .ref (ad 89)), (1, .int (nI t)), (2, .int (nI r9)), (3, .int (nI (cntN wh wd kp tx t r9)))] (by decide) rfl ?_
            refine tg_goto C 13 dX5_rankOf_60 (by decide) ?_
            refine tg_sub [3, 4, 5, 6, 1, 0] rfl ?_
            exact ih13 (o + 1) (a9 + 0) ⟨by omega, by show _ = sm (ahd (cntN wh wd kp tx t) r9) o + ahd (cntN wh wd kp tx t) r9 o; rw [show ahd (cntN wh wd kp tx t) r9 o = 0 from if_neg (by omega)]; omega⟩ (by omega)
          · -- on
            replace c40 : (cntN wh wd kp tx t o) = (cntN wh wd kp tx t r9) := (nI_eq (by omega) (by omega)).mp c40
            refine tg_iload C dX5_rankOf_43 45 rfl 6 rfl ?_
            refine tg_iload_n C dX5_rankOf_45 46 rfl rfl 3 rfl ?_
            refine tg_icmp_ge C 53 dX5_rankOf_46 (by decide) 49 rfl (fun c46 => ?_) (fun c46 => ?_)
            · -- to 53
              replace c46 : r9 ≤ o := (nI_leI (by omega) (by omega)).mp c46
              refine tg_iconst C (nI 0) dX5_rankOf_53 54 rfl (by decide) ?_
              refine tg_iadd C (nI (a9 + 0)) dX5_rankOf_54 55 rfl (nI_add a9 0) ?_
              refine tg_istore C dX5_rankOf_55 57 rfl [(4, .int (nI (a9 + 0))), (6, .int (nI (cntN wh wd kp tx t o))), (0, .ref (ad 89)), (1, .int (nI t)), (2, .int (nI r9)), (3, .int (nI (cntN wh wd kp tx t r9))), (5, .int (nI o))] (by decide) rfl ?_
              refine tg_iinc C (nI (o + 1)) dX5_rankOf_57 60 rfl 6 rfl (nI_add o 1) [(5, .int (nI (o + 1))), (4, .int (nI (a9 + 0))), (6, .int (nI (cntN wh wd kp tx t o))), (0, .ref (ad 89)), (1, .int (nI t)), (2, .int (nI r9)), (3, .int (nI (cntN wh wd kp tx t r9)))] (by decide) rfl ?_
              refine tg_goto C 13 dX5_rankOf_60 (by decide) ?_
              refine tg_sub [3, 4, 5, 6, 1, 0] rfl ?_
              exact ih13 (o + 1) (a9 + 0) ⟨by omega, by show _ = sm (ahd (cntN wh wd kp tx t) r9) o + ahd (cntN wh wd kp tx t) r9 o; rw [show ahd (cntN wh wd kp tx t) r9 o = 0 from if_neg (by omega)]; omega⟩ (by omega)
            · -- on
              replace c46 : ¬ r9 ≤ o := fun q => c46 ((nI_leI (by omega) (by omega)).mpr q)
              refine tg_iconst C (nI 1) dX5_rankOf_49 50 rfl (by decide) ?_
              refine tg_goto C 54 dX5_rankOf_50 (by decide) ?_
              refine tg_iadd C (nI (a9 + 1)) dX5_rankOf_54 55 rfl (nI_add a9 1) ?_
              refine tg_istore C dX5_rankOf_55 57 rfl [(4, .int (nI (a9 + 1))), (6, .int (nI (cntN wh wd kp tx t o))), (0, .ref (ad 89)), (1, .int (nI t)), (2, .int (nI r9)), (3, .int (nI (cntN wh wd kp tx t r9))), (5, .int (nI o))] (by decide) rfl ?_
              refine tg_iinc C (nI (o + 1)) dX5_rankOf_57 60 rfl 6 rfl (nI_add o 1) [(5, .int (nI (o + 1))), (4, .int (nI (a9 + 1))), (6, .int (nI (cntN wh wd kp tx t o))), (0, .ref (ad 89)), (1, .int (nI t)), (2, .int (nI r9)), (3, .int (nI (cntN wh wd kp tx t r9)))] (by decide) rfl ?_
              refine tg_goto C 13 dX5_rankOf_60 (by decide) ?_
              refine tg_sub [3, 4, 5, 6, 1, 0] rfl ?_
              exact ih13 (o + 1) (a9 + 1) ⟨by omega, by show _ = sm (ahd (cntN wh wd kp tx t) r9) o + ahd (cntN wh wd kp tx t) r9 o; rw [show ahd (cntN wh wd kp tx t) r9 o = 1 from if_pos (by omega)]; omega⟩ (by omega)
  refine tg_sub [3, 4, 5, 2, 1, 0] rfl ?_
  exact L13 _ 0 0 ⟨by omega, rfl⟩ (Nat.lt_succ_self _)
