/-! ===== the reference: totals, costs, distances ===== -/
/-! ===== the reference: telling ===== -/
theorem lnI_v {x : Int32} (h1 : nI 97 ≤ x) (h2 : x ≤ nI 101) : ∃ v, v < 6 ∧ x - nI 97 + nI 1 = nI v := by
  obtain ⟨j, hj, rfl⟩ := nI_of (x := x) (Int32.not_lt.mpr (Int32.le_trans (by decide) h1))
  have h3 := (nI_leI (by omega) hj).mp h1
  have h4 := (nI_leI hj (by omega)).mp h2
  exact ⟨j - 96, by omega, by rw [pk_sub h3, nI_add]; congr 1; omega⟩
theorem lnI_c (x : Int32) : lnI x = -1 ∨ ∃ v, v < 6 ∧ lnI x = nI v := by
  unfold lnI
  split
  · exact Or.inr ⟨0, by omega, rfl⟩
  · split
    · rename_i h; obtain ⟨v, h1, h2⟩ := lnI_v h.1 h.2; exact Or.inr ⟨v, h1, h2⟩
    · exact Or.inl rfl
theorem lnI_n {x : Int32} (h1 : nI 97 ≤ x) (h2 : x ≤ nI 101) : ¬ x - nI 97 + nI 1 = -1 := fun q => by
  obtain ⟨v, hv, e⟩ := lnI_v h1 h2
  rw [e] at q
  exact m1_ne (by omega) q
/-- the best of the tongues q .. tc - 1 so far: none (e = 0), or e - 1 -/
def bst (f : Nat → Nat) (tc q e : Nat) : Prop := (q = tc ∧ e = 0) ∨ ∃ b, e = b + 1 ∧ q ≤ b ∧ b < tc ∧ (∀ u, q ≤ u → u < tc → f b ≤ f u) ∧ ∀ u, q ≤ u → u < b → f b < f u
theorem bst_none {f : Nat → Nat} {tc p : Nat} (h : bst f tc (p + 1) 0) : bst f tc p (p + 1) := by
  rcases h with ⟨h, -⟩ | ⟨b, h, -⟩
  · exact Or.inr ⟨p, rfl, Nat.le_refl _, by omega, fun u h1 h2 => by rw [show u = p by omega]; exact Nat.le_refl _, fun u h1 h2 => by omega⟩
  · omega
theorem bst_take {f : Nat → Nat} {tc p b : Nat} (h : bst f tc (p + 1) (b + 1)) (hf : f p ≤ f b) : bst f tc p (p + 1) := by
  rcases h with ⟨-, h⟩ | ⟨b', h, h1, h2, h3, h4⟩
  · omega
  · obtain rfl : b = b' := by omega
    refine Or.inr ⟨p, rfl, Nat.le_refl _, by omega, fun u h5 h6 => ?_, fun u h5 h6 => by omega⟩
    rcases Nat.eq_or_lt_of_le h5 with q | q
    · rw [q]; exact Nat.le_refl _
    · exact Nat.le_trans hf (h3 u q h6)
theorem bst_keep {f : Nat → Nat} {tc p b : Nat} (h : bst f tc (p + 1) (b + 1)) (hf : ¬ f p ≤ f b) : bst f tc p (b + 1) := by
  rcases h with ⟨-, h⟩ | ⟨b', h, h1, h2, h3, h4⟩
  · omega
  · obtain rfl : b = b' := by omega
    refine Or.inr ⟨b, rfl, by omega, h2, fun u h5 h6 => ?_, fun u h5 h6 => ?_⟩
    · rcases Nat.eq_or_lt_of_le h5 with q | q
      · rw [← q]; omega
      · exact h3 u q h6
    · rcases Nat.eq_or_lt_of_le h5 with q | q
      · rw [← q]; omega
      · exact h4 u q h6
theorem amin_u {f : Nat → Nat} {n b : Nat} (hb : b < n) (h1 : ∀ u, u < n → f b ≤ f u) (h2 : ∀ u, u < b → f b < f u) : b = amin f n := by
  have h3 := amin_lt f n (by omega)
  have h4 := amin_min f n b hb
  have h5 := h1 _ h3
  rcases Nat.lt_trichotomy b (amin f n) with h | h | h
  · have := amin_first f n b h; omega
  · exact h
  · have := h2 _ h; omega
theorem bst_end {f : Nat → Nat} {tc e : Nat} (h : bst f tc 0 e) : (tc = 0 ∧ e = 0) ∨ (0 < tc ∧ e = amin f tc + 1) := by
  rcases h with ⟨h, h1⟩ | ⟨b, h, h1, h2, h3, h4⟩
  · exact Or.inl ⟨h.symm, h1⟩
  · exact Or.inr ⟨by omega, by rw [h, amin_u h2 (fun u hu => h3 u (Nat.zero_le _) hu) (fun u hu => h4 u (Nat.zero_le _) hu)]⟩
/-! distances: run by run, the counts from the greatest down -/
def ahN (c0 : Nat → Nat) (M R : Nat) : Nat := sm (fun o => if M < c0 o ∨ (c0 o = M ∧ o < R) then 1 else 0) 36
def dsM (c0 c : Nat → Nat) (M R : Nat) : Nat := sm (fun o => if M < c0 o ∨ (c0 o = M ∧ o < R) then dst1 c0 c o else 0) 36
theorem sm_one {f g : Nat → Nat} {R x : Nat} : ∀ (n : Nat), R < n → (∀ o, o < n → o ≠ R → f o = g o) → f R = g R + x → sm f n = sm g n + x
  | 0, h, _, _ => absurd h (Nat.not_lt_zero _)
  | n + 1, h, h1, h2 => by
    show sm f n + f n = sm g n + g n + x
    rcases Nat.eq_or_lt_of_le (Nat.lt_succ_iff.mp h) with q | q
    · subst q
      rw [sm_congr R (fun o ho => h1 o (by omega) (by omega)), h2]
      omega
    · rw [sm_one n q (fun o ho => h1 o (by omega)) h2, h1 n (by omega) (by omega)]
      omega
theorem ahN_rk {c0 : Nat → Nat} {M R : Nat} (h : c0 R = M) : ahN c0 M R = rkN c0 R := by
  subst h
  rfl
theorem ahN_eq {c0 : Nat → Nat} {M R : Nat} (hR : R < 36) (h : c0 R = M) : ahN c0 M (R + 1) = ahN c0 M R + 1 := by
  refine sm_one 36 hR (fun o ho hne => ?_) ?_
  · by_cases q : M < c0 o ∨ (c0 o = M ∧ o < R)
    · rw [if_pos q, if_pos (by omega)]
    · rw [if_neg q, if_neg (by omega)]
  · rw [if_pos (by omega), if_neg (by omega)]
theorem dsM_eq {c0 c : Nat → Nat} {M R : Nat} (hR : R < 36) (h : c0 R = M) : dsM c0 c M (R + 1) = dsM c0 c M R + dst1 c0 c R := by
  refine sm_one 36 hR (fun o ho hne => ?_) ?_
  · by_cases q : M < c0 o ∨ (c0 o = M ∧ o < R)
    · rw [if_pos q, if_pos (by omega)]
    · rw [if_neg q, if_neg (by omega)]
  · rw [if_pos (by omega), if_neg (by omega), Nat.zero_add]
theorem ahN_ne {c0 : Nat → Nat} {M R : Nat} (h : ¬ c0 R = M) : ahN c0 M (R + 1) = ahN c0 M R := by
  refine sm_congr 36 (fun o ho => ?_)
  by_cases q : M < c0 o ∨ (c0 o = M ∧ o < R)
  · rw [if_pos q, if_pos (by omega)]
  · rw [if_neg q, if_neg (fun q2 => by
      rcases q2 with q2 | ⟨q2, q3⟩
      · omega
      · rcases Nat.eq_or_lt_of_le (Nat.lt_succ_iff.mp q3) with q4 | q4
        · exact h (q4 ▸ q2)
        · omega)]
theorem dsM_ne {c0 c : Nat → Nat} {M R : Nat} (h : ¬ c0 R = M) : dsM c0 c M (R + 1) = dsM c0 c M R := by
  refine sm_congr 36 (fun o ho => ?_)
  by_cases q : M < c0 o ∨ (c0 o = M ∧ o < R)
  · rw [if_pos q, if_pos (by omega)]
  · rw [if_neg q, if_neg (fun q2 => by
      rcases q2 with q2 | ⟨q2, q3⟩
      · omega
      · rcases Nat.eq_or_lt_of_le (Nat.lt_succ_iff.mp q3) with q4 | q4
        · exact h (q4 ▸ q2)
        · omega)]
theorem ahN_dn (c0 : Nat → Nat) (M : Nat) : ahN c0 M 0 = ahN c0 (M + 1) 36 := by
  refine sm_congr 36 (fun o ho => ?_)
  by_cases q : M < c0 o
  · rw [if_pos (Or.inl q), if_pos (by omega)]
  · rw [if_neg (by omega), if_neg (by omega)]
theorem dsM_dn (c0 c : Nat → Nat) (M : Nat) : dsM c0 c M 0 = dsM c0 c (M + 1) 36 := by
  refine sm_congr 36 (fun o ho => ?_)
  by_cases q : M < c0 o
  · rw [if_pos (Or.inl q), if_pos (by omega)]
  · rw [if_neg (by omega), if_neg (by omega)]
theorem sm_0 {f : Nat → Nat} : ∀ (n : Nat), (∀ k, k < n → f k = 0) → sm f n = 0
  | 0, _ => rfl
  | n + 1, h => by
    show sm f n + f n = 0
    rw [sm_0 n (fun k hk => h k (by omega)), h n (by omega)]
theorem ahN_0 {c0 : Nat → Nat} {M : Nat} (h : ∀ o, c0 o ≤ M) : ahN c0 M 0 = 0 := sm_0 36 (fun o _ => if_neg (by have := h o; omega))
theorem dsM_0 {c0 c : Nat → Nat} {M : Nat} (h : ∀ o, c0 o ≤ M) : dsM c0 c M 0 = 0 := sm_0 36 (fun o _ => if_neg (by have := h o; omega))
theorem dsM_end (c0 c : Nat → Nat) : dsM c0 c 0 0 = dstN c0 c := by
  refine sm_congr 36 (fun o ho => ?_)
  by_cases q : 0 < c0 o
  · rw [if_pos (Or.inl q)]
  · rw [if_neg (by omega)]
    unfold dst1
    rw [if_pos (by omega)]
/-- the last place of the first n where f has x, and one; 0 if there is none -/
def slt (f : Nat → Int32) (x : Int32) : Nat → Nat
  | 0 => 0
  | k + 1 => if f k = x then k + 1 else slt f x k
theorem slt_le (f : Nat → Int32) (x : Int32) : ∀ n, slt f x n ≤ n
  | 0 => Nat.le_refl _
  | n + 1 => by
    unfold slt
    split
    · exact Nat.le_refl _
    · have := slt_le f x n; omega
theorem slt_at (f : Nat → Int32) (x : Int32) : ∀ (n k : Nat), slt f x n = k + 1 → f k = x
  | 0, k => fun h => by simp [slt] at h
  | n + 1, k => by
    unfold slt
    split
    · intro h
      obtain rfl : n = k := by omega
      assumption
    · exact slt_at f x n k
theorem slt_no (f : Nat → Int32) (x : Int32) : ∀ (n : Nat), slt f x n = 0 → ∀ k, k < n → f k ≠ x
  | 0, _, k, hk => absurd hk (Nat.not_lt_zero _)
  | n + 1, h, k, hk => by
    unfold slt at h
    split at h
    · omega
    · rcases Nat.eq_or_lt_of_le (Nat.lt_succ_iff.mp hk) with q | q
      · subst q; assumption
      · exact slt_no f x n h k q
set_option maxHeartbeats 4000000 in
set_option maxRecDepth 100000 in
theorem c_X5_total (l : Launch) (D : va_G) (cy : Nat → ClassId) (ad : Nat → Nat) (hDis : Dis ad) (σ : sS) {n : Nat} {w : Nat → Nat} {tc mg pr tx nx : Nat} {nm wh wd : Nat → Nat} {kp : Nat → Nat → Nat} (hM : MM σ n w tc mg pr tx nx nm wh wd kp) {x : Int32} : Mi l yX5_total wsX5_total 2 43 D cy ad [.ref (ad 89), .int x] σ (fun r τ => (∃ t, t < tc ∧ x = nI t ∧ r = nI (totN wh wd tx t) ∧ τ = su σ 89 0 (nI 0)) ∨ (¬ inR x tc ∧ τ = su σ 89 0 (nI 1))) := by
  have w0 : Cond.fieldLink RX5 35 "TonguetellModel" "thrown" "I" ∈ wsX5_total := by decide +kernel
  have w1 : ∀ w ∈ wsX50, w ∈ wsX5_total := by decide +kernel
  have hn16 := hM.1.2.1
  have htc5 := hM.2.1.2.2.2.1
  have htx := hM.2.2.2.2.1
  have hrc := rc_le hn16
  have hrn := hM.rn_lt
  have hwd := hM.wd_le
  have hmg := hM.2.1.2.2.2.2.1
  have hpr := hM.2.1.2.2.2.2.2
  have hnx := hM.2.2.2.2.2.1
  refine Mi.of (cc := cX5_total) (nL := 2) (own := RX5) hDis (by decide) rfl [(0, .ref (ad 89)), (1, .int x)] rfl (Nat.le_of_ble_eq_true rfl) rfl ?_
  intro p e s m args below meth c A Q C hret
  refine tg_aload_n C dX5_total_0 1 rfl rfl 0 rfl ?_
  refine tg_iconst C (nI 0) dX5_total_1 2 rfl (by decide) ?_
  refine tg_put (T := TX5) (N := 13) (Cn := RX5) C tyX5 tyX5_ok nmX5 89 (by decide) (e_89 ad cy _) rfl w1 0 (by decide) w0 rfl rfl (by decide +kernel) (Nat.le_of_ble_eq_true rfl) (e_89 ad cy _) dX5_total_2 5 rfl ?_
  obtain ⟨σ1, hσ1⟩ : ∃ z : sS, z = su σ 89 0 (nI 0) := ⟨_, rfl⟩
  rw [← hσ1]
  have hM1 : MM σ1 n w tc mg pr tx nx nm wh wd kp := by rw [hσ1]; exact hM.th _
  refine tg_aload_n C dX5_total_5 6 rfl rfl 0 rfl ?_
  refine tg_iload_n C dX5_total_6 7 rfl rfl 1 rfl ?_
  refine tg_callVi C 89 (by decide) (e_89 ad cy _) rfl (c_X5_isTongue l D cy ad hDis σ1 hM1 (x := x)) (cwV 1 C.2.2.2.2.1 gX5_total_X5_isTongue rfl rfl rfl (by decide +kernel) ⟨Nat.le_of_ble_eq_true rfl, Nat.le_of_ble_eq_true rfl⟩) rfl rfl (Nat.le_of_ble_eq_true rfl) ⟨Nat.le_of_ble_eq_true rfl, Nat.le_of_ble_eq_true rfl⟩ dX5_total_7 10 rfl (fun r7 τ7 h7 => ?_)
  obtain ⟨h7, h7s⟩ := h7
  subst h7s
  subst h7
  refine tg_if_eq C 21 dX5_total_10 (by decide) 13 rfl (fun c10 => ?_) (fun c10 => ?_)
  · -- to 21
    replace c10 : ¬ inR x tc := (inb_f (by omega)).mp (bI_0.mp c10)
    refine tg_aload_n C dX5_total_21 22 rfl rfl 0 rfl ?_
    refine tg_iconst C (nI 1) dX5_total_22 23 rfl (by decide) ?_
    refine tg_callVi C 89 (by decide) (e_89 ad cy _) rfl (c_X5_fails l D cy ad hDis σ1 (x := nI 1)) (cwV 1 C.2.2.2.2.1 gX5_total_X5_fails rfl rfl rfl (by decide +kernel) ⟨Nat.le_of_ble_eq_true rfl, Nat.le_of_ble_eq_true rfl⟩) rfl rfl (Nat.le_of_ble_eq_true rfl) ⟨Nat.le_of_ble_eq_true rfl, Nat.le_of_ble_eq_true rfl⟩ dX5_total_23 26 rfl (fun r23 τ23 h23 => ?_)
    exact hret dX5_total_26 (Or.inr ⟨c10, by rw [h23.2, hσ1, su_su]⟩)
  · -- on
    replace c10 : inR x tc := (inb_t (by omega)).mp (bI_n.mp c10)
    obtain ⟨t, ht, hxt⟩ := c10
    subst hxt
    refine tg_aload_n C dX5_total_13 14 rfl rfl 0 rfl ?_
    refine tg_iload_n C dX5_total_14 15 rfl rfl 1 rfl ?_
    refine tg_callVi C 89 (by decide) (e_89 ad cy _) rfl (c_X5_totalOf l D cy ad hDis σ1 hM1 (t := t) (by omega)) (cwV 1 C.2.2.2.2.1 gX5_total_X5_totalOf rfl rfl rfl (by decide +kernel) ⟨Nat.le_of_ble_eq_true rfl, Nat.le_of_ble_eq_true rfl⟩) rfl rfl (Nat.le_of_ble_eq_true rfl) ⟨Nat.le_of_ble_eq_true rfl, Nat.le_of_ble_eq_true rfl⟩ dX5_total_15 18 rfl (fun r15 τ15 h15 => ?_)
    obtain ⟨h15, h15s⟩ := h15
    subst h15s
    subst h15
    refine tg_goto C 26 dX5_total_18 (by decide) ?_
    exact hret dX5_total_26 (Or.inl ⟨t, ht, rfl, rfl, hσ1⟩)
set_option maxHeartbeats 4000000 in
set_option maxRecDepth 100000 in
theorem c_X5_isRun (l : Launch) (D : va_G) (cy : Nat → ClassId) (ad : Nat → Nat) (hDis : Dis ad) (σ : sS) {n : Nat} {w : Nat → Nat} {tc mg pr tx nx : Nat} {nm wh wd : Nat → Nat} {kp : Nat → Nat → Nat} (hM : MM σ n w tc mg pr tx nx nm wh wd kp) {x y : Int32} : Mi l yX5_isRun wsX5_isRun 2 43 D cy ad [.ref (ad 89), .int x, .int y] σ (fun r τ => (inR x tc ∧ inR y 36 ∧ r = nI 1 ∧ τ = su σ 89 0 (nI 0)) ∨ (¬ (inR x tc ∧ inR y 36) ∧ r = nI 0 ∧ τ = su σ 89 0 (nI 1))) := by
  have w0 : Cond.fieldLink RX5 35 "TonguetellModel" "thrown" "I" ∈ wsX5_isRun := by decide +kernel
  have w1 : ∀ w ∈ wsX50, w ∈ wsX5_isRun := by decide +kernel
  have hn16 := hM.1.2.1
  have htc5 := hM.2.1.2.2.2.1
  have htx := hM.2.2.2.2.1
  have hrc := rc_le hn16
  have hrn := hM.rn_lt
  have hwd := hM.wd_le
  have hmg := hM.2.1.2.2.2.2.1
  have hpr := hM.2.1.2.2.2.2.2
  have hnx := hM.2.2.2.2.2.1
  refine Mz.of (cc := cX5_isRun) (nL := 3) (own := RX5) hDis (by decide) rfl [(0, .ref (ad 89)), (1, .int x), (2, .int y)] rfl (Nat.le_of_ble_eq_true rfl) rfl ?_
  intro p e s m args below meth c A Q C hret
  refine tg_aload_n C dX5_isRun_0 1 rfl rfl 0 rfl ?_
  refine tg_aload_n C dX5_isRun_1 2 rfl rfl 0 rfl ?_
  refine tg_iload_n C dX5_isRun_2 3 rfl rfl 1 rfl ?_
  refine tg_callVi C 89 (by decide) (e_89 ad cy _) rfl (c_X5_isTongue l D cy ad hDis σ hM (x := x)) (cwV 1 C.2.2.2.2.1 gX5_isRun_X5_isTongue rfl rfl rfl (by decide +kernel) ⟨Nat.le_of_ble_eq_true rfl, Nat.le_of_ble_eq_true rfl⟩) rfl rfl (Nat.le_of_ble_eq_true rfl) ⟨Nat.le_of_ble_eq_true rfl, Nat.le_of_ble_eq_true rfl⟩ dX5_isRun_3 6 rfl (fun r3 τ3 h3 => ?_)
  obtain ⟨h3, h3s⟩ := h3
  subst h3s
  subst h3
  refine tg_if_eq C 23 dX5_isRun_6 (by decide) 9 rfl (fun c6 => ?_) (fun c6 => ?_)
  · -- to 23
    replace c6 : ¬ inR x tc := (inb_f (by omega)).mp (bI_0.mp c6)
    refine tg_iconst C (nI 1) dX5_isRun_23 24 rfl (by decide) ?_
    refine tg_put (T := TX5) (N := 13) (Cn := RX5) C tyX5 tyX5_ok nmX5 89 (by decide) (e_89 ad cy _) rfl w1 0 (by decide) w0 rfl rfl (by decide +kernel) (Nat.le_of_ble_eq_true rfl) (e_89 ad cy _) dX5_isRun_24 27 rfl ?_
    refine tg_aload_n C dX5_isRun_27 28 rfl rfl 0 rfl ?_
    refine tg_get (T := TX5) (N := 13) (Cn := RX5) C 89 (by decide) (e_89 ad cy _) rfl w1 0 (by decide) w0 rfl rfl dX5_isRun_28 31 rfl ?_
    refine tg_top (y := nI 1) (su_eq _ _ _ _) ?_
    refine tg_if_ne C 38 dX5_isRun_31 (by decide) 34 rfl (fun c31 => ?_) (fun c31 => absurd c31 (by decide))
    refine tg_iconst C (nI 0) dX5_isRun_38 39 rfl (by decide) ?_
    exact hret dX5_isRun_39 rfl (Or.inr ⟨by first | exact fun q => c6 q.1 | exact fun q => c16 q.2, rfl, rfl⟩)
  · -- on
    replace c6 : inR x tc := (inb_t (by omega)).mp (bI_n.mp c6)
    refine tg_iload_n C dX5_isRun_9 10 rfl rfl 2 rfl ?_
    refine tg_iconst C (nI 0) dX5_isRun_10 11 rfl (by decide) ?_
    refine tg_bipush C (nI 35) dX5_isRun_11 13 rfl (by decide) ?_
    refine tg_callSi C (c_X5_in l D cy ad hDis σ (x := y) (y := nI 0) (z := bv 36)) (cwS 3 C.2.2.2.2.1 gX5_isRun_X5_in rfl rfl rfl (by decide +kernel) ⟨Nat.le_of_ble_eq_true rfl, Nat.le_of_ble_eq_true rfl⟩) rfl rfl (Nat.le_of_ble_eq_true rfl) ⟨Nat.le_of_ble_eq_true rfl, Nat.le_of_ble_eq_true rfl⟩ dX5_isRun_13 16 rfl (fun r13 τ13 h13 => ?_)
    obtain ⟨h13, h13s⟩ := h13
    subst h13s
    subst h13
    refine tg_if_eq C 23 dX5_isRun_16 (by decide) 19 rfl (fun c16 => ?_) (fun c16 => ?_)
    · -- to 23
      replace c16 : ¬ inR y 36 := (inb_f (by omega)).mp (bI_0.mp c16)
      refine tg_iconst C (nI 1) dX5_isRun_23 24 rfl (by decide) ?_
      refine tg_put (T := TX5) (N := 13) (Cn := RX5) C tyX5 tyX5_ok nmX5 89 (by decide) (e_89 ad cy _) rfl w1 0 (by decide) w0 rfl rfl (by decide +kernel) (Nat.le_of_ble_eq_true rfl) (e_89 ad cy _) dX5_isRun_24 27 rfl ?_
      refine tg_aload_n C dX5_isRun_27 28 rfl rfl 0 rfl ?_
      refine tg_get (T := TX5) (N := 13) (Cn := RX5) C 89 (by decide) (e_89 ad cy _) rfl w1 0 (by decide) w0 rfl rfl dX5_isRun_28 31 rfl ?_
      refine tg_top (y := nI 1) (su_eq _ _ _ _) ?_
      refine tg_if_ne C 38 dX5_isRun_31 (by decide) 34 rfl (fun c31 => ?_) (fun c31 => absurd c31 (by decide))
      refine tg_iconst C (nI 0) dX5_isRun_38 39 rfl (by decide) ?_
      exact hret dX5_isRun_39 rfl (Or.inr ⟨by first | exact fun q => c6 q.1 | exact fun q => c16 q.2, rfl, rfl⟩)
    · -- on
      replace c16 : inR y 36 := (inb_t (by omega)).mp (bI_n.mp c16)
      refine tg_iconst C (nI 0) dX5_isRun_19 20 rfl (by decide) ?_
      refine tg_goto C 24 dX5_isRun_20 (by decide) ?_
      refine tg_put (T := TX5) (N := 13) (Cn := RX5) C tyX5 tyX5_ok nmX5 89 (by decide) (e_89 ad cy _) rfl w1 0 (by decide) w0 rfl rfl (by decide +kernel) (Nat.le_of_ble_eq_true rfl) (e_89 ad cy _) dX5_isRun_24 27 rfl ?_
      refine tg_aload_n C dX5_isRun_27 28 rfl rfl 0 rfl ?_
      refine tg_get (T := TX5) (N := 13) (Cn := RX5) C 89 (by decide) (e_89 ad cy _) rfl w1 0 (by decide) w0 rfl rfl dX5_isRun_28 31 rfl ?_
      refine tg_top (y := nI 0) (su_eq _ _ _ _) ?_
      refine tg_if_ne C 38 dX5_isRun_31 (by decide) 34 rfl (fun c31 => absurd (by decide) c31) (fun c31 => ?_)
      refine tg_iconst C (nI 1) dX5_isRun_34 35 rfl (by decide) ?_
      refine tg_goto C 39 dX5_isRun_35 (by decide) ?_
      exact hret dX5_isRun_39 rfl (Or.inl ⟨c6, c16, rfl, rfl⟩)
set_option maxHeartbeats 4000000 in
set_option maxRecDepth 100000 in
theorem c_X5_count (l : Launch) (D : va_G) (cy : Nat → ClassId) (ad : Nat → Nat) (hDis : Dis ad) (σ : sS) {n : Nat} {w : Nat → Nat} {tc mg pr tx nx : Nat} {nm wh wd : Nat → Nat} {kp : Nat → Nat → Nat} (hM : MM σ n w tc mg pr tx nx nm wh wd kp) {x y : Int32} : Mi l yX5_count wsX5_count 3 65 D cy ad [.ref (ad 89), .int x, .int y] σ (fun r τ => (∃ t k, t < tc ∧ k < 36 ∧ x = nI t ∧ y = nI k ∧ r = nI (cntN wh wd kp tx t k) ∧ τ = su σ 89 0 (nI 0)) ∨ (¬ (inR x tc ∧ inR y 36) ∧ τ = su σ 89 0 (nI 1))) := by
  have hn16 := hM.1.2.1
  have htc5 := hM.2.1.2.2.2.1
  have htx := hM.2.2.2.2.1
  have hrc := rc_le hn16
  have hrn := hM.rn_lt
  have hwd := hM.wd_le
  have hmg := hM.2.1.2.2.2.2.1
  have hpr := hM.2.1.2.2.2.2.2
  have hnx := hM.2.2.2.2.2.1
  refine Mi.of (cc := cX5_count) (nL := 3) (own := RX5) hDis (by decide) rfl [(0, .ref (ad 89)), (1, .int x), (2, .int y)] rfl (Nat.le_of_ble_eq_true rfl) rfl ?_
  intro p e s m args below meth c A Q C hret
  refine tg_aload_n C dX5_count_0 1 rfl rfl 0 rfl ?_
  refine tg_iload_n C dX5_count_1 2 rfl rfl 1 rfl ?_
  refine tg_iload_n C dX5_count_2 3 rfl rfl 2 rfl ?_
  refine tg_callVi C 89 (by decide) (e_89 ad cy _) rfl (c_X5_isRun l D cy ad hDis σ hM (x := x) (y := y)) (cwV 2 C.2.2.2.2.1 gX5_count_X5_isRun rfl rfl rfl (by decide +kernel) ⟨Nat.le_of_ble_eq_true rfl, Nat.le_of_ble_eq_true rfl⟩) rfl rfl (Nat.le_of_ble_eq_true rfl) ⟨Nat.le_of_ble_eq_true rfl, Nat.le_of_ble_eq_true rfl⟩ dX5_count_3 6 rfl (fun r3 τ3 h3 => ?_)
  rcases h3 with ⟨h3a, h3b, h3c, h3d⟩ | ⟨h3a, h3c, h3d⟩
  · subst h3c
    obtain ⟨t, ht, hxt⟩ := h3a
    subst hxt
    obtain ⟨k, hk, hyk⟩ := h3b
    subst hyk
    have hM1 : MM τ3 n w tc mg pr tx nx nm wh wd kp := by rw [h3d]; exact hM.th _
    refine tg_if_eq C 18 dX5_count_6 (by decide) 9 rfl (fun c6 => absurd c6 (by decide)) (fun c6 => ?_)
    refine tg_aload_n C dX5_count_9 10 rfl rfl 0 rfl ?_
    refine tg_iload_n C dX5_count_10 11 rfl rfl 1 rfl ?_
    refine tg_iload_n C dX5_count_11 12 rfl rfl 2 rfl ?_
    refine tg_callVi C 89 (by decide) (e_89 ad cy _) rfl (c_X5_countOf l D cy ad hDis τ3 hM1 (t := t) (r9 := k) (by omega) (by omega)) (cwV 2 C.2.2.2.2.1 gX5_count_X5_countOf rfl rfl rfl (by decide +kernel) ⟨Nat.le_of_ble_eq_true rfl, Nat.le_of_ble_eq_true rfl⟩) rfl rfl (Nat.le_of_ble_eq_true rfl) ⟨Nat.le_of_ble_eq_true rfl, Nat.le_of_ble_eq_true rfl⟩ dX5_count_12 15 rfl (fun r12 τ12 h12 => ?_)
    obtain ⟨h12, h12s⟩ := h12
    subst h12s
    subst h12
    refine tg_goto C 19 dX5_count_15 (by decide) ?_
    exact hret dX5_count_19 (Or.inl ⟨t, k, ht, hk, rfl, rfl, rfl, h3d⟩)
  · subst h3c
    refine tg_if_eq C 18 dX5_count_6 (by decide) 9 rfl (fun c6 => ?_) (fun c6 => absurd (by decide) c6)
    refine tg_iconst C (nI 0) dX5_count_18 19 rfl (by decide) ?_
    exact hret dX5_count_19 (Or.inr ⟨h3a, h3d⟩)
set_option maxHeartbeats 4000000 in
set_option maxRecDepth 100000 in
theorem c_X5_cost (l : Launch) (D : va_G) (cy : Nat → ClassId) (ad : Nat → Nat) (hDis : Dis ad) (σ : sS) {n : Nat} {w : Nat → Nat} {tc mg pr tx nx : Nat} {nm wh wd : Nat → Nat} {kp : Nat → Nat → Nat} (hM : MM σ n w tc mg pr tx nx nm wh wd kp) {x y : Int32} : Mi l yX5_cost wsX5_cost 3 65 D cy ad [.ref (ad 89), .int x, .int y] σ (fun r τ => (∃ t k, t < tc ∧ k < 36 ∧ x = nI t ∧ y = nI k ∧ r = nI (costN (cntN wh wd kp tx t k) (totN wh wd tx t)) ∧ τ = su σ 89 0 (nI 0)) ∨ (¬ (inR x tc ∧ inR y 36) ∧ τ = su σ 89 0 (nI 1))) := by
  have hn16 := hM.1.2.1
  have htc5 := hM.2.1.2.2.2.1
  have htx := hM.2.2.2.2.1
  have hrc := rc_le hn16
  have hrn := hM.rn_lt
  have hwd := hM.wd_le
  have hmg := hM.2.1.2.2.2.2.1
  have hpr := hM.2.1.2.2.2.2.2
  have hnx := hM.2.2.2.2.2.1
  refine Mi.of (cc := cX5_cost) (nL := 3) (own := RX5) hDis (by decide) rfl [(0, .ref (ad 89)), (1, .int x), (2, .int y)] rfl (Nat.le_of_ble_eq_true rfl) rfl ?_
  intro p e s m args below meth c A Q C hret
  refine tg_aload_n C dX5_cost_0 1 rfl rfl 0 rfl ?_
  refine tg_iload_n C dX5_cost_1 2 rfl rfl 1 rfl ?_
  refine tg_iload_n C dX5_cost_2 3 rfl rfl 2 rfl ?_
  refine tg_callVi C 89 (by decide) (e_89 ad cy _) rfl (c_X5_isRun l D cy ad hDis σ hM (x := x) (y := y)) (cwV 2 C.2.2.2.2.1 gX5_cost_X5_isRun rfl rfl rfl (by decide +kernel) ⟨Nat.le_of_ble_eq_true rfl, Nat.le_of_ble_eq_true rfl⟩) rfl rfl (Nat.le_of_ble_eq_true rfl) ⟨Nat.le_of_ble_eq_true rfl, Nat.le_of_ble_eq_true rfl⟩ dX5_cost_3 6 rfl (fun r3 τ3 h3 => ?_)
  rcases h3 with ⟨h3a, h3b, h3c, h3d⟩ | ⟨h3a, h3c, h3d⟩
  · subst h3c
    obtain ⟨t, ht, hxt⟩ := h3a
    subst hxt
    obtain ⟨k, hk, hyk⟩ := h3b
    subst hyk
    have hM1 : MM τ3 n w tc mg pr tx nx nm wh wd kp := by rw [h3d]; exact hM.th _
    refine tg_if_eq C 18 dX5_cost_6 (by decide) 9 rfl (fun c6 => absurd c6 (by decide)) (fun c6 => ?_)
    refine tg_aload_n C dX5_cost_9 10 rfl rfl 0 rfl ?_
    refine tg_iload_n C dX5_cost_10 11 rfl rfl 1 rfl ?_
    refine tg_iload_n C dX5_cost_11 12 rfl rfl 2 rfl ?_
    refine tg_callVi C 89 (by decide) (e_89 ad cy _) rfl (c_X5_costOf l D cy ad hDis τ3 hM1 (t := t) (r9 := k) (by omega) (by omega)) (cwV 2 C.2.2.2.2.1 gX5_cost_X5_costOf rfl rfl rfl (by decide +kernel) ⟨Nat.le_of_ble_eq_true rfl, Nat.le_of_ble_eq_true rfl⟩) rfl rfl (Nat.le_of_ble_eq_true rfl) ⟨Nat.le_of_ble_eq_true rfl, Nat.le_of_ble_eq_true rfl⟩ dX5_cost_12 15 rfl (fun r12 τ12 h12 => ?_)
    obtain ⟨h12, h12s⟩ := h12
    subst h12s
    subst h12
    refine tg_goto C 19 dX5_cost_15 (by decide) ?_
    exact hret dX5_cost_19 (Or.inl ⟨t, k, ht, hk, rfl, rfl, rfl, h3d⟩)
  · subst h3c
    refine tg_if_eq C 18 dX5_cost_6 (by decide) 9 rfl (fun c6 => ?_) (fun c6 => absurd (by decide) c6)
    refine tg_iconst C (nI 0) dX5_cost_18 19 rfl (by decide) ?_
    exact hret dX5_cost_19 (Or.inr ⟨h3a, h3d⟩)
set_option maxHeartbeats 4000000 in
set_option maxRecDepth 100000 in
theorem c_X5_rank (l : Launch) (D : va_G) (cy : Nat → ClassId) (ad : Nat → Nat) (hDis : Dis ad) (σ : sS) {n : Nat} {w : Nat → Nat} {tc mg pr tx nx : Nat} {nm wh wd : Nat → Nat} {kp : Nat → Nat → Nat} (hM : MM σ n w tc mg pr tx nx nm wh wd kp) {x y : Int32} : Mi l yX5_rank wsX5_rank 3 65 D cy ad [.ref (ad 89), .int x, .int y] σ (fun r τ => (∃ t k, t < tc ∧ k < 36 ∧ x = nI t ∧ y = nI k ∧ r = rkI (cntN wh wd kp tx t) k ∧ τ = su σ 89 0 (nI 0)) ∨ (¬ (inR x tc ∧ inR y 36) ∧ τ = su σ 89 0 (nI 1))) := by
  have hn16 := hM.1.2.1
  have htc5 := hM.2.1.2.2.2.1
  have htx := hM.2.2.2.2.1
  have hrc := rc_le hn16
  have hrn := hM.rn_lt
  have hwd := hM.wd_le
  have hmg := hM.2.1.2.2.2.2.1
  have hpr := hM.2.1.2.2.2.2.2
  have hnx := hM.2.2.2.2.2.1
  refine Mi.of (cc := cX5_rank) (nL := 3) (own := RX5) hDis (by decide) rfl [(0, .ref (ad 89)), (1, .int x), (2, .int y)] rfl (Nat.le_of_ble_eq_true rfl) rfl ?_
  intro p e s m args below meth c A Q C hret
  refine tg_aload_n C dX5_rank_0 1 rfl rfl 0 rfl ?_
  refine tg_iload_n C dX5_rank_1 2 rfl rfl 1 rfl ?_
  refine tg_iload_n C dX5_rank_2 3 rfl rfl 2 rfl ?_
  refine tg_callVi C 89 (by decide) (e_89 ad cy _) rfl (c_X5_isRun l D cy ad hDis σ hM (x := x) (y := y)) (cwV 2 C.2.2.2.2.1 gX5_rank_X5_isRun rfl rfl rfl (by decide +kernel) ⟨Nat.le_of_ble_eq_true rfl, Nat.le_of_ble_eq_true rfl⟩) rfl rfl (Nat.le_of_ble_eq_true rfl) ⟨Nat.le_of_ble_eq_true rfl, Nat.le_of_ble_eq_true rfl⟩ dX5_rank_3 6 rfl (fun r3 τ3 h3 => ?_)
  rcases h3 with ⟨h3a, h3b, h3c, h3d⟩ | ⟨h3a, h3c, h3d⟩
  · subst h3c
    obtain ⟨t, ht, hxt⟩ := h3a
    subst hxt
    obtain ⟨k, hk, hyk⟩ := h3b
    subst hyk
    have hM1 : MM τ3 n w tc mg pr tx nx nm wh wd kp := by rw [h3d]; exact hM.th _
    refine tg_if_eq C 18 dX5_rank_6 (by decide) 9 rfl (fun c6 => absurd c6 (by decide)) (fun c6 => ?_)
    refine tg_aload_n C dX5_rank_9 10 rfl rfl 0 rfl ?_
    refine tg_iload_n C dX5_rank_10 11 rfl rfl 1 rfl ?_
    refine tg_iload_n C dX5_rank_11 12 rfl rfl 2 rfl ?_
    refine tg_callVi C 89 (by decide) (e_89 ad cy _) rfl (c_X5_rankOf l D cy ad hDis τ3 hM1 (t := t) (r9 := k) (by omega) (by omega)) (cwV 2 C.2.2.2.2.1 gX5_rank_X5_rankOf rfl rfl rfl (by decide +kernel) ⟨Nat.le_of_ble_eq_true rfl, Nat.le_of_ble_eq_true rfl⟩) rfl rfl (Nat.le_of_ble_eq_true rfl) ⟨Nat.le_of_ble_eq_true rfl, Nat.le_of_ble_eq_true rfl⟩ dX5_rank_12 15 rfl (fun r12 τ12 h12 => ?_)
    obtain ⟨h12, h12s⟩ := h12
    subst h12s
    subst h12
    refine tg_goto C 19 dX5_rank_15 (by decide) ?_
    exact hret dX5_rank_19 (Or.inl ⟨t, k, ht, hk, rfl, rfl, rfl, h3d⟩)
  · subst h3c
    refine tg_if_eq C 18 dX5_rank_6 (by decide) 9 rfl (fun c6 => ?_) (fun c6 => absurd (by decide) c6)
    refine tg_iconst C (nI 0) dX5_rank_18 19 rfl (by decide) ?_
    exact hret dX5_rank_19 (Or.inr ⟨h3a, h3d⟩)
set_option maxHeartbeats 4000000 in
set_option maxRecDepth 100000 in
theorem c_X5_costOfText (l : Launch) (D : va_G) (cy : Nat → ClassId) (ad : Nat → Nat) (hDis : Dis ad) (σ : sS) {n : Nat} {w : Nat → Nat} {tc mg pr tx nx : Nat} {nm wh wd : Nat → Nat} {kp : Nat → Nat → Nat} (hM : MM σ n w tc mg pr tx nx nm wh wd kp) {t : Nat} (ht : t ≤ 1000) : Mi l yX5_costOfText wsX5_costOfText 2 50 D cy ad [.ref (ad 89), .int (nI t)] σ (fun r τ => r = nI (ctxN n w (cntN wh wd kp tx t) (totN wh wd tx t)) ∧ σ = τ) := by
  have hn16 := hM.1.2.1
  have htc5 := hM.2.1.2.2.2.1
  have htx := hM.2.2.2.2.1
  have hrc := rc_le hn16
  have hrn := hM.rn_lt
  have hwd := hM.wd_le
  have hmg := hM.2.1.2.2.2.2.1
  have hpr := hM.2.1.2.2.2.2.2
  have hnx := hM.2.2.2.2.2.1
  refine Mi.of (cc := cX5_costOfText) (nL := 4) (own := RX5) hDis (by decide) rfl [(0, .ref (ad 89)), (1, .int (nI t))] rfl (Nat.le_of_ble_eq_true rfl) rfl ?_
  intro p e s m args below meth c A Q C hret
  refine tg_iconst C (nI 0) dX5_costOfText_0 1 rfl (by decide) ?_
  refine tg_istore_n C dX5_costOfText_1 2 rfl rfl [(2, .int (nI 0)), (0, .ref (ad 89)), (1, .int (nI t))] (by decide) rfl ?_
  refine tg_iconst C (nI 0) dX5_costOfText_2 3 rfl (by decide) ?_
  refine tg_istore_n C dX5_costOfText_3 4 rfl rfl [(3, .int (nI 0)), (2, .int (nI 0)), (0, .ref (ad 89)), (1, .int (nI t))] (by decide) rfl ?_
  have L4 : ∀ (n4 : Nat) (k a9 : Nat), (k ≤ rc n ∧ a9 = sm (fun k => costN (cntN wh wd kp tx t (rn n w k)) (totN wh wd tx t)) k) → rc n - k < n4 → TT p l e (Rm 2 50) s m args below meth c D cy ad A 4 0 0 Q σ 4 [(0, .ref (ad 89)), (1, .int (nI t)), (2, .int (nI a9)), (3, .int (nI k))] [] := by
    intro n4
    induction n4 with
    | zero => intro k a9 _ hn4; exact absurd hn4 (Nat.not_lt_zero _)
    | succ n4 ih4 =>
      intro k a9 ⟨hk, ha⟩ hn4
      refine tg_iload_n C dX5_costOfText_4 5 rfl rfl 3 rfl ?_
      refine tg_aload_n C dX5_costOfText_5 6 rfl rfl 0 rfl ?_
      refine tg_callVi C 89 (by decide) (e_89 ad cy _) rfl (c_X5_runMany l D cy ad hDis σ hM) (cwV 0 C.2.2.2.2.1 gX5_costOfText_X5_runMany rfl rfl rfl (by decide +kernel) ⟨Nat.le_of_ble_eq_true rfl, Nat.le_of_ble_eq_true rfl⟩) rfl rfl (Nat.le_of_ble_eq_true rfl) ⟨Nat.le_of_ble_eq_true rfl, Nat.le_of_ble_eq_true rfl⟩ dX5_costOfText_6 9 rfl (fun r6 τ6 h6 => ?_)
      obtain ⟨h6, h6s⟩ := h6
      subst h6s
      subst h6
      refine tg_icmp_ge C 31 dX5_costOfText_9 (by decide) 12 rfl (fun c9 => ?_) (fun c9 => ?_)
      · -- to 31
        replace c9 : (rc n) ≤ k := (nI_leI (by omega) (by omega)).mp c9
        refine tg_iload_n C dX5_costOfText_31 32 rfl rfl 2 rfl ?_
        exact hret dX5_costOfText_32 ⟨by rw [ha, show k = rc n by omega]; rfl, rfl⟩
      · -- on
        replace c9 : ¬ (rc n) ≤ k := fun q => c9 ((nI_leI (by omega) (by omega)).mpr q)
        refine tg_iload_n C dX5_costOfText_12 13 rfl rfl 2 rfl ?_
        refine tg_aload_n C dX5_costOfText_13 14 rfl rfl 0 rfl ?_
        refine tg_iload_n C dX5_costOfText_14 15 rfl rfl 1 rfl ?_
        refine tg_aload_n C dX5_costOfText_15 16 rfl rfl 0 rfl ?_
        refine tg_iload_n C dX5_costOfText_16 17 rfl rfl 3 rfl ?_
        refine tg_callVi C 89 (by decide) (e_89 ad cy _) rfl (c_X5_run l D cy ad hDis σ hM (k := k) (rc_lt (by omega))) (cwV 1 C.2.2.2.2.1 gX5_costOfText_X5_run rfl rfl rfl (by decide +kernel) ⟨Nat.le_of_ble_eq_true rfl, Nat.le_of_ble_eq_true rfl⟩) rfl rfl (Nat.le_of_ble_eq_true rfl) ⟨Nat.le_of_ble_eq_true rfl, Nat.le_of_ble_eq_true rfl⟩ dX5_costOfText_17 20 rfl (fun r17 τ17 h17 => ?_)
        obtain ⟨h17, h17s⟩ := h17
        subst h17s
        subst h17
        refine tg_callVi C 89 (by decide) (e_89 ad cy _) rfl (c_X5_costOf l D cy ad hDis σ hM (t := t) (r9 := rn n w k) (by omega) (by have := hrn k; omega)) (cwV 2 C.2.2.2.2.1 gX5_costOfText_X5_costOf rfl rfl rfl (by decide +kernel) ⟨Nat.le_of_ble_eq_true rfl, Nat.le_of_ble_eq_true rfl⟩) rfl rfl (Nat.le_of_ble_eq_true rfl) ⟨Nat.le_of_ble_eq_true rfl, Nat.le_of_ble_eq_true rfl⟩ dX5_costOfText_20 23 rfl (fun r20 τ20 h20 => ?_)
        obtain ⟨h20, h20s⟩ := h20
        subst h20s
        subst h20
        refine tg_iadd C (nI (a9 + (costN (cntN wh wd kp tx t (rn n w k)) (totN wh wd tx t)))) dX5_costOfText_23 24 rfl (nI_add a9 (costN (cntN wh wd kp tx t (rn n w k)) (totN wh wd tx t))) ?_
        refine tg_istore_n C dX5_costOfText_24 25 rfl rfl [(2, .int (nI (a9 + (costN (cntN wh wd kp tx t (rn n w k)) (totN wh wd tx t))))), (0, .ref (ad 89)), (1, .int (nI t)), (3, .int (nI k))] (by decide) rfl ?_
        refine tg_iinc C (nI (k + 1)) dX5_costOfText_25 28 rfl 3 rfl (nI_add k 1) [(3, .int (nI (k + 1))), (2, .int (nI (a9 + (costN (cntN wh wd kp tx t (rn n w k)) (totN wh wd tx t))))), (0, .ref (ad 89)), (1, .int (nI t))] (by decide) rfl ?_
        refine tg_goto C 4 dX5_costOfText_28 (by decide) ?_
        refine tg_sub [2, 3, 1, 0] rfl ?_
        exact ih4 (k + 1) (a9 + (costN (cntN wh wd kp tx t (rn n w k)) (totN wh wd tx t))) ⟨by omega, by rw [ha]; rfl⟩ (by omega)
  refine tg_sub [2, 3, 1, 0] rfl ?_
  exact L4 _ 0 0 ⟨by omega, rfl⟩ (Nat.lt_succ_self _)
set_option maxHeartbeats 4000000 in
set_option maxRecDepth 100000 in
theorem c_X5_inText (l : Launch) (D : va_G) (cy : Nat → ClassId) (ad : Nat → Nat) (hDis : Dis ad) (σ : sS) {n : Nat} {w : Nat → Nat} {tc mg pr tx nx : Nat} {nm wh wd : Nat → Nat} {kp : Nat → Nat → Nat} (hM : MM σ n w tc mg pr tx nx nm wh wd kp) {r9 : Nat} (hr9 : r9 ≤ 1000) : Mi l yX5_inText wsX5_inText 1 23 D cy ad [.ref (ad 89), .int (nI r9)] σ (fun r τ => r = nI (ownN n w (rc n) r9) ∧ σ = τ) := by
  have hn16 := hM.1.2.1
  have htc5 := hM.2.1.2.2.2.1
  have htx := hM.2.2.2.2.1
  have hrc := rc_le hn16
  have hrn := hM.rn_lt
  have hwd := hM.wd_le
  have hmg := hM.2.1.2.2.2.2.1
  have hpr := hM.2.1.2.2.2.2.2
  have hnx := hM.2.2.2.2.2.1
  refine Mi.of (cc := cX5_inText) (nL := 4) (own := RX5) hDis (by decide) rfl [(0, .ref (ad 89)), (1, .int (nI r9))] rfl (Nat.le_of_ble_eq_true rfl) rfl ?_
  intro p e s m args below meth c A Q C hret
  refine tg_iconst C (nI 0) dX5_inText_0 1 rfl (by decide) ?_
  refine tg_istore_n C dX5_inText_1 2 rfl rfl [(2, .int (nI 0)), (0, .ref (ad 89)), (1, .int (nI r9))] (by decide) rfl ?_
  refine tg_iconst C (nI 0) dX5_inText_2 3 rfl (by decide) ?_
  refine tg_istore_n C dX5_inText_3 4 rfl rfl [(3, .int (nI 0)), (2, .int (nI 0)), (0, .ref (ad 89)), (1, .int (nI r9))] (by decide) rfl ?_
  have L4 : ∀ (n4 : Nat) (k a9 : Nat), (k ≤ rc n ∧ a9 = ownN n w k r9) → rc n - k < n4 → TT p l e (Rm 1 23) s m args below meth c D cy ad A 4 0 0 Q σ 4 [(0, .ref (ad 89)), (1, .int (nI r9)), (2, .int (nI a9)), (3, .int (nI k))] [] := by
    intro n4
    induction n4 with
    | zero => intro k a9 _ hn4; exact absurd hn4 (Nat.not_lt_zero _)
    | succ n4 ih4 =>
      intro k a9 ⟨hk, ha⟩ hn4
      refine tg_iload_n C dX5_inText_4 5 rfl rfl 3 rfl ?_
      refine tg_aload_n C dX5_inText_5 6 rfl rfl 0 rfl ?_
      refine tg_callVi C 89 (by decide) (e_89 ad cy _) rfl (c_X5_runMany l D cy ad hDis σ hM) (cwV 0 C.2.2.2.2.1 gX5_inText_X5_runMany rfl rfl rfl (by decide +kernel) ⟨Nat.le_of_ble_eq_true rfl, Nat.le_of_ble_eq_true rfl⟩) rfl rfl (Nat.le_of_ble_eq_true rfl) ⟨Nat.le_of_ble_eq_true rfl, Nat.le_of_ble_eq_true rfl⟩ dX5_inText_6 9 rfl (fun r6 τ6 h6 => ?_)
      obtain ⟨h6, h6s⟩ := h6
      subst h6s
      subst h6
      refine tg_icmp_ge C 35 dX5_inText_9 (by decide) 12 rfl (fun c9 => ?_) (fun c9 => ?_)
      · -- to 35
        replace c9 : (rc n) ≤ k := (nI_leI (by omega) (by omega)).mp c9
        refine tg_iload_n C dX5_inText_35 36 rfl rfl 2 rfl ?_
        exact hret dX5_inText_36 ⟨by rw [ha, show k = rc n by omega], rfl⟩
      · -- on
        replace c9 : ¬ (rc n) ≤ k := fun q => c9 ((nI_leI (by omega) (by omega)).mpr q)
        refine tg_iload_n C dX5_inText_12 13 rfl rfl 2 rfl ?_
        refine tg_aload_n C dX5_inText_13 14 rfl rfl 0 rfl ?_
        refine tg_iload_n C dX5_inText_14 15 rfl rfl 3 rfl ?_
        refine tg_callVi C 89 (by decide) (e_89 ad cy _) rfl (c_X5_run l D cy ad hDis σ hM (k := k) (rc_lt (by omega))) (cwV 1 C.2.2.2.2.1 gX5_inText_X5_run rfl rfl rfl (by decide +kernel) ⟨Nat.le_of_ble_eq_true rfl, Nat.le_of_ble_eq_true rfl⟩) rfl rfl (Nat.le_of_ble_eq_true rfl) ⟨Nat.le_of_ble_eq_true rfl, Nat.le_of_ble_eq_true rfl⟩ dX5_inText_15 18 rfl (fun r15 τ15 h15 => ?_)
        obtain ⟨h15, h15s⟩ := h15
        subst h15s
        subst h15
        refine tg_iload_n C dX5_inText_18 19 rfl rfl 1 rfl ?_
        have hrk := hrn k
        refine tg_icmp_ne C 26 dX5_inText_19 (by decide) 22 rfl (fun c19 => ?_) (fun c19 => ?_)
        · -- to 26
          replace c19 : ¬ (rn n w k) = r9 := fun q => c19 ((nI_eq (by omega) (by omega)).mpr q)
          refine tg_iconst C (nI 0) dX5_inText_26 27 rfl (by decide) ?_
          refine tg_iadd C (nI (a9 + 0)) dX5_inText_27 28 rfl (nI_add a9 0) ?_
          refine tg_istore_n C dX5_inText_28 29 rfl rfl [(2, .int (nI (a9 + 0))), (0, .ref (ad 89)), (1, .int (nI r9)), (3, .int (nI k))] (by decide) rfl ?_
          refine tg_iinc C (nI (k + 1)) dX5_inText_29 32 rfl 3 rfl (nI_add k 1) [(3, .int (nI (k + 1))), (2, .int (nI (a9 + 0))), (0, .ref (ad 89)), (1, .int (nI r9))] (by decide) rfl ?_
          refine tg_goto C 4 dX5_inText_32 (by decide) ?_
          refine tg_sub [2, 3, 1, 0] rfl ?_
          exact ih4 (k + 1) (a9 + 0) ⟨by omega, by show _ = ownN n w k r9 + (if rn n w k = r9 then 1 else 0); rw [if_neg c19, ha]⟩ (by omega)
        · -- on
          replace c19 : (rn n w k) = r9 := (nI_eq (by omega) (by omega)).mp c19
          refine tg_iconst C (nI 1) dX5_inText_22 23 rfl (by decide) ?_
          refine tg_goto C 27 dX5_inText_23 (by decide) ?_
          refine tg_iadd C (nI (a9 + 1)) dX5_inText_27 28 rfl (nI_add a9 1) ?_
          refine tg_istore_n C dX5_inText_28 29 rfl rfl [(2, .int (nI (a9 + 1))), (0, .ref (ad 89)), (1, .int (nI r9)), (3, .int (nI k))] (by decide) rfl ?_
          refine tg_iinc C (nI (k + 1)) dX5_inText_29 32 rfl 3 rfl (nI_add k 1) [(3, .int (nI (k + 1))), (2, .int (nI (a9 + 1))), (0, .ref (ad 89)), (1, .int (nI r9))] (by decide) rfl ?_
          refine tg_goto C 4 dX5_inText_32 (by decide) ?_
          refine tg_sub [2, 3, 1, 0] rfl ?_
          exact ih4 (k + 1) (a9 + 1) ⟨by omega, by show _ = ownN n w k r9 + (if rn n w k = r9 then 1 else 0); rw [if_pos c19, ha]⟩ (by omega)
  refine tg_sub [2, 3, 1, 0] rfl ?_
  exact L4 _ 0 0 ⟨by omega, rfl⟩ (Nat.lt_succ_self _)
set_option maxHeartbeats 4000000 in
set_option maxRecDepth 100000 in
theorem c_X5_distanceOf (l : Launch) (D : va_G) (cy : Nat → ClassId) (ad : Nat → Nat) (hDis : Dis ad) (σ : sS) {n : Nat} {w : Nat → Nat} {tc mg pr tx nx : Nat} {nm wh wd : Nat → Nat} {kp : Nat → Nat → Nat} (hM : MM σ n w tc mg pr tx nx nm wh wd kp) {t : Nat} (ht : t ≤ 1000) : Mi l yX5_distanceOf wsX5_distanceOf 2 51 D cy ad [.ref (ad 89), .int (nI t)] σ (fun r τ => r = nI (dstN (ownN n w (rc n)) (cntN wh wd kp tx t)) ∧ σ = τ) := by
  have hn16 := hM.1.2.1
  have htc5 := hM.2.1.2.2.2.1
  have htx := hM.2.2.2.2.1
  have hrc := rc_le hn16
  have hrn := hM.rn_lt
  have hwd := hM.wd_le
  have hmg := hM.2.1.2.2.2.2.1
  have hpr := hM.2.1.2.2.2.2.2
  have hnx := hM.2.2.2.2.2.1
  have hrk := rkN_le (cntN wh wd kp tx t)
  refine Mi.of (cc := cX5_distanceOf) (nL := 8) (own := RX5) hDis (by decide) rfl [(0, .ref (ad 89)), (1, .int (nI t))] rfl (Nat.le_of_ble_eq_true rfl) rfl ?_
  intro p e s m args below meth c A Q C hret
  refine tg_iconst C (nI 0) dX5_distanceOf_0 1 rfl (by decide) ?_
  refine tg_istore_n C dX5_distanceOf_1 2 rfl rfl [(2, .int (nI 0)), (0, .ref (ad 89)), (1, .int (nI t))] (by decide) rfl ?_
  refine tg_iconst C (nI 0) dX5_distanceOf_2 3 rfl (by decide) ?_
  refine tg_istore_n C dX5_distanceOf_3 4 rfl rfl [(3, .int (nI 0)), (2, .int (nI 0)), (0, .ref (ad 89)), (1, .int (nI t))] (by decide) rfl ?_
  refine tg_aload_n C dX5_distanceOf_4 5 rfl rfl 2 rfl ?_
  refine tg_callVi C 89 (by decide) (e_89 ad cy _) rfl (c_X5_runMany l D cy ad hDis σ hM) (cwV 0 C.2.2.2.2.1 gX5_distanceOf_X5_runMany rfl rfl rfl (by decide +kernel) ⟨Nat.le_of_ble_eq_true rfl, Nat.le_of_ble_eq_true rfl⟩) rfl rfl (Nat.le_of_ble_eq_true rfl) ⟨Nat.le_of_ble_eq_true rfl, Nat.le_of_ble_eq_true rfl⟩ dX5_distanceOf_5 8 rfl (fun r5 τ5 h5 => ?_)
  obtain ⟨h5, h5s⟩ := h5
  subst h5s
  subst h5
  refine tg_istore C dX5_distanceOf_8 10 rfl [(4, .int (nI (rc n))), (3, .int (nI 0)), (2, .int (nI 0)), (0, .ref (ad 89)), (1, .int (nI t))] (by decide) rfl ?_
  have L10 : ∀ (n10 : Nat) (M a9 s9 : Nat), (M ≤ rc n ∧ a9 = ahN (ownN n w (rc n)) M 0 ∧ s9 = dsM (ownN n w (rc n)) (cntN wh wd kp tx t) M 0) → M < n10 → TT p l e (Rm 2 51) s m args below meth c D cy ad A 8 0 0 Q σ 10 [(0, .ref (ad 89)), (1, .int (nI t)), (2, .int (nI s9)), (3, .int (nI a9)), (4, .int (nI M))] [] := by
    intro n10
    induction n10 with
    | zero => intro M a9 s9 _ hn10; exact absurd hn10 (Nat.not_lt_zero _)
    | succ n10 ih10 =>
      intro M a9 s9 ⟨hM9, ha, hs⟩ hn10
      refine tg_iload C dX5_distanceOf_10 12 rfl 4 rfl ?_
      refine tg_if_le C 95 dX5_distanceOf_12 (by decide) 15 rfl (fun c12 => ?_) (fun c12 => ?_)
      · -- to 95
        replace c12 : M = 0 := (z_le (by omega)).mp c12
        subst c12
        refine tg_iload_n C dX5_distanceOf_95 96 rfl rfl 2 rfl ?_
        exact hret dX5_distanceOf_96 ⟨by rw [hs, dsM_end], rfl⟩
      · -- on
        replace c12 : ¬ M = 0 := fun q => c12 ((z_le (by omega)).mpr q)
        obtain ⟨M, rfl⟩ : ∃ z, M = z + 1 := ⟨M - 1, by omega⟩
        refine tg_iconst C (nI 0) dX5_distanceOf_15 16 rfl (by decide) ?_
        refine tg_istore C dX5_distanceOf_16 18 rfl [(5, .int (nI 0)), (0, .ref (ad 89)), (1, .int (nI t)), (2, .int (nI s9)), (3, .int (nI a9)), (4, .int (nI (M + 1)))] (by decide) rfl ?_
        have L18 : ∀ (n18 : Nat) (R a8 s8 : Nat), (R ≤ 36 ∧ a8 = ahN (ownN n w (rc n)) (M + 1) R ∧ s8 = dsM (ownN n w (rc n)) (cntN wh wd kp tx t) (M + 1) R) → 36 - R < n18 → TT p l e (Rm 2 51) s m args below meth c D cy ad A 8 0 0 Q σ 18 [(0, .ref (ad 89)), (1, .int (nI t)), (2, .int (nI s8)), (3, .int (nI a8)), (4, .int (nI (M + 1))), (5, .int (nI R))] [] := by
          intro n18
          induction n18 with
          | zero => intro R a8 s8 _ hn18; exact absurd hn18 (Nat.not_lt_zero _)
          | succ n18 ih18 =>
            intro R a8 s8 ⟨hR, ha2, hs2⟩ hn18
            refine tg_iload C dX5_distanceOf_18 20 rfl 5 rfl ?_
            refine tg_bipush C (nI 36) dX5_distanceOf_20 22 rfl (by decide) ?_
            refine tg_icmp_ge C 89 dX5_distanceOf_22 (by decide) 25 rfl (fun c22 => ?_) (fun c22 => ?_)
            · -- to 89
              replace c22 : 36 ≤ R := (nI_leI (by omega) (by omega)).mp c22
              refine tg_iinc C (nI M) dX5_distanceOf_89 92 rfl 4 rfl (pk_m1 M) [(4, .int (nI M)), (0, .ref (ad 89)), (1, .int (nI t)), (2, .int (nI s8)), (3, .int (nI a8)), (5, .int (nI R))] (by decide) rfl ?_
              refine tg_goto C 10 dX5_distanceOf_92 (by decide) ?_
              refine tg_sub [1, 2, 3, 4, 0] rfl ?_
              exact ih10 M a8 s8 ⟨by omega, by rw [ha2, show R = 36 by omega, ahN_dn], by rw [hs2, show R = 36 by omega, dsM_dn]⟩ (by omega)
            · -- on
              replace c22 : ¬ 36 ≤ R := fun q => c22 ((nI_leI (by omega) (by omega)).mpr q)
              refine tg_aload_n C dX5_distanceOf_25 26 rfl rfl 0 rfl ?_
              refine tg_iload C dX5_distanceOf_26 28 rfl 5 rfl ?_
              refine tg_callVi C 89 (by decide) (e_89 ad cy _) rfl (c_X5_inText l D cy ad hDis σ hM (r9 := R) (by omega)) (cwV 1 C.2.2.2.2.1 gX5_distanceOf_X5_inText rfl rfl rfl (by decide +kernel) ⟨Nat.le_of_ble_eq_true rfl, Nat.le_of_ble_eq_true rfl⟩) rfl rfl (Nat.le_of_ble_eq_true rfl) ⟨Nat.le_of_ble_eq_true rfl, Nat.le_of_ble_eq_true rfl⟩ dX5_distanceOf_28 31 rfl (fun r28 τ28 h28 => ?_)
              obtain ⟨h28, h28s⟩ := h28
              subst h28s
              subst h28
              refine tg_iload C dX5_distanceOf_31 33 rfl 4 rfl ?_
              have how := ownN_le n w (rc n) R
              refine tg_icmp_ne C 83 dX5_distanceOf_33 (by decide) 36 rfl (fun c33 => ?_) (fun c33 => ?_)
              · -- to 83
                replace c33 : ¬ (ownN n w (rc n) R) = (M + 1) := fun q => c33 ((nI_eq (by omega) (by omega)).mpr q)
                refine tg_iinc C (nI (R + 1)) dX5_distanceOf_83 86 rfl 5 rfl (nI_add R 1) [(5, .int (nI (R + 1))), (0, .ref (ad 89)), (1, .int (nI t)), (2, .int (nI s8)), (3, .int (nI a8)), (4, .int (nI (M + 1)))] (by decide) rfl ?_
                refine tg_goto C 18 dX5_distanceOf_86 (by decide) ?_
                refine tg_sub [1, 2, 3, 4, 5, 0] rfl ?_
                exact ih18 (R + 1) a8 s8 ⟨by omega, by rw [ha2, ahN_ne c33], by rw [hs2, dsM_ne c33]⟩ (by omega)
              · -- on
                replace c33 : (ownN n w (rc n) R) = (M + 1) := (nI_eq (by omega) (by omega)).mp c33
                refine tg_aload_n C dX5_distanceOf_36 37 rfl rfl 0 rfl ?_
                refine tg_iload_n C dX5_distanceOf_37 38 rfl rfl 1 rfl ?_
                refine tg_iload C dX5_distanceOf_38 40 rfl 5 rfl ?_
                have hkR := hrk R
                have hah : a8 = rkN (ownN n w (rc n)) R := by rw [ha2, ahN_rk c33]
                have hak := rkN_le (ownN n w (rc n)) R
                refine tg_callVi C 89 (by decide) (e_89 ad cy _) rfl (c_X5_rankOf l D cy ad hDis σ hM (t := t) (r9 := R) (by omega) (by omega)) (cwV 2 C.2.2.2.2.1 gX5_distanceOf_X5_rankOf rfl rfl rfl (by decide +kernel) ⟨Nat.le_of_ble_eq_true rfl, Nat.le_of_ble_eq_true rfl⟩) rfl rfl (Nat.le_of_ble_eq_true rfl) ⟨Nat.le_of_ble_eq_true rfl, Nat.le_of_ble_eq_true rfl⟩ dX5_distanceOf_40 43 rfl (fun r40 τ40 h40 => ?_)
                obtain ⟨h40, h40s⟩ := h40
                subst h40s
                subst h40
                by_cases hz : cntN wh wd kp tx t R = 0
                · refine tg_top (y := -1) (rkI_m1.mpr hz) ?_
                  refine tg_istore C dX5_distanceOf_43 45 rfl [(6, .int ((-1))), (0, .ref (ad 89)), (1, .int (nI t)), (2, .int (nI s8)), (3, .int (nI a8)), (4, .int (nI (M + 1))), (5, .int (nI R))] (by decide) rfl ?_
                  refine tg_iload C dX5_distanceOf_45 47 rfl 0 rfl ?_
                  refine tg_iload_n C dX5_distanceOf_47 48 rfl rfl 4 rfl ?_
                  refine tg_icmp_le C 58 dX5_distanceOf_48 (by decide) 51 rfl (fun c48 => ?_) (fun c48 => absurd (by rw [show (-1 : Int32) = bv 0 from rfl]; exact Int32.le_trans (show bv 0 ≤ nI 0 from by decide) (nI_pos' (by omega))) c48)
                  refine tg_iload_n C dX5_distanceOf_58 59 rfl rfl 4 rfl ?_
                  refine tg_iload C dX5_distanceOf_59 61 rfl 0 rfl ?_
                  refine tg_isub C (nI a8 - (-1)) dX5_distanceOf_61 62 rfl (rfl) ?_
                  refine tg_istore C dX5_distanceOf_62 64 rfl [(7, .int (nI a8 - (-1))), (6, .int ((-1))), (0, .ref (ad 89)), (1, .int (nI t)), (2, .int (nI s8)), (3, .int (nI a8)), (4, .int (nI (M + 1))), (5, .int (nI R))] (by decide) rfl ?_
                  refine tg_iload_n C dX5_distanceOf_64 65 rfl rfl 4 rfl ?_
                  refine tg_iload C dX5_distanceOf_65 67 rfl 1 rfl ?_
                  refine tg_iconst C (-1) dX5_distanceOf_67 68 rfl (by decide) ?_
                  refine tg_icmp_ne C 76 dX5_distanceOf_68 (by decide) 71 rfl (fun c68 => absurd (rfl) c68) (fun c68 => ?_)
                  refine tg_bipush C (nI 36) dX5_distanceOf_71 73 rfl (by decide) ?_
                  refine tg_goto C 78 dX5_distanceOf_73 (by decide) ?_
                  refine tg_iadd C (nI (s8 + 36)) dX5_distanceOf_78 79 rfl (nI_add s8 36) ?_
                  refine tg_istore_n C dX5_distanceOf_79 80 rfl rfl [(2, .int (nI (s8 + 36))), (7, .int (nI a8 - (-1))), (6, .int ((-1))), (0, .ref (ad 89)), (1, .int (nI t)), (3, .int (nI a8)), (4, .int (nI (M + 1))), (5, .int (nI R))] (by decide) rfl ?_
                  refine tg_iinc C (nI (a8 + 1)) dX5_distanceOf_80 83 rfl 5 rfl (nI_add a8 1) [(3, .int (nI (a8 + 1))), (2, .int (nI (s8 + 36))), (7, .int (nI a8 - (-1))), (6, .int ((-1))), (0, .ref (ad 89)), (1, .int (nI t)), (4, .int (nI (M + 1))), (5, .int (nI R))] (by decide) rfl ?_
                  refine tg_iinc C (nI (R + 1)) dX5_distanceOf_83 86 rfl 7 rfl (nI_add R 1) [(5, .int (nI (R + 1))), (3, .int (nI (a8 + 1))), (2, .int (nI (s8 + 36))), (7, .int (nI a8 - (-1))), (6, .int ((-1))), (0, .ref (ad 89)), (1, .int (nI t)), (4, .int (nI (M + 1)))] (by decide) rfl ?_
                  refine tg_goto C 18 dX5_distanceOf_86 (by decide) ?_
                  refine tg_sub [5, 6, 2, 1, 7, 0] rfl ?_
                  exact ih18 (R + 1) (a8 + 1) (s8 + 36) ⟨by omega, by rw [ha2, ahN_eq (by omega) c33], by rw [hs2, dsM_eq (by omega) c33]; unfold dst1; first | (rw [if_neg (by omega), if_pos hz]; done) | (rw [if_neg (by omega), if_neg hz, ← ahN_rk c33, ← ha2]; unfold absd; first | (rw [if_pos (by omega)]; done) | (rw [if_neg (by omega)]))⟩ (by omega)
                · refine tg_top (y := nI (rkN (cntN wh wd kp tx t) R)) (rkI_of hz) ?_
                  refine tg_istore C dX5_distanceOf_43 45 rfl [(6, .int (nI (rkN (cntN wh wd kp tx t) R))), (0, .ref (ad 89)), (1, .int (nI t)), (2, .int (nI s8)), (3, .int (nI a8)), (4, .int (nI (M + 1))), (5, .int (nI R))] (by decide) rfl ?_
                  refine tg_iload C dX5_distanceOf_45 47 rfl 0 rfl ?_
                  refine tg_iload_n C dX5_distanceOf_47 48 rfl rfl 4 rfl ?_
                  refine tg_icmp_le C 58 dX5_distanceOf_48 (by decide) 51 rfl (fun c48 => ?_) (fun c48 => ?_)
                  · -- to 58
                    replace c48 : (rkN (cntN wh wd kp tx t) R) ≤ a8 := (nI_leI (by omega) (by omega)).mp c48
                    refine tg_iload_n C dX5_distanceOf_58 59 rfl rfl 4 rfl ?_
                    refine tg_iload C dX5_distanceOf_59 61 rfl 0 rfl ?_
                    refine tg_isub C (nI (a8 - (rkN (cntN wh wd kp tx t) R))) dX5_distanceOf_61 62 rfl (pk_sub (by omega)) ?_
                    refine tg_istore C dX5_distanceOf_62 64 rfl [(7, .int (nI (a8 - (rkN (cntN wh wd kp tx t) R)))), (6, .int (nI (rkN (cntN wh wd kp tx t) R))), (0, .ref (ad 89)), (1, .int (nI t)), (2, .int (nI s8)), (3, .int (nI a8)), (4, .int (nI (M + 1))), (5, .int (nI R))] (by decide) rfl ?_
                    refine tg_iload_n C dX5_distanceOf_64 65 rfl rfl 4 rfl ?_
                    refine tg_iload C dX5_distanceOf_65 67 rfl 1 rfl ?_
                    refine tg_iconst C (-1) dX5_distanceOf_67 68 rfl (by decide) ?_
                    refine tg_icmp_ne C 76 dX5_distanceOf_68 (by decide) 71 rfl (fun c68 => ?_) (fun c68 => absurd c68 (m1_ne (by omega)))
                    refine tg_iload C dX5_distanceOf_76 78 rfl 0 rfl ?_
                    refine tg_iadd C (nI (s8 + (a8 - (rkN (cntN wh wd kp tx t) R)))) dX5_distanceOf_78 79 rfl (nI_add s8 (a8 - (rkN (cntN wh wd kp tx t) R))) ?_
                    refine tg_istore_n C dX5_distanceOf_79 80 rfl rfl [(2, .int (nI (s8 + (a8 - (rkN (cntN wh wd kp tx t) R))))), (7, .int (nI (a8 - (rkN (cntN wh wd kp tx t) R)))), (6, .int (nI (rkN (cntN wh wd kp tx t) R))), (0, .ref (ad 89)), (1, .int (nI t)), (3, .int (nI a8)), (4, .int (nI (M + 1))), (5, .int (nI R))] (by decide) rfl ?_
                    refine tg_iinc C (nI (a8 + 1)) dX5_distanceOf_80 83 rfl 5 rfl (nI_add a8 1) [(3, .int (nI (a8 + 1))), (2, .int (nI (s8 + (a8 - (rkN (cntN wh wd kp tx t) R))))), (7, .int (nI (a8 - (rkN (cntN wh wd kp tx t) R)))), (6, .int (nI (rkN (cntN wh wd kp tx t) R))), (0, .ref (ad 89)), (1, .int (nI t)), (4, .int (nI (M + 1))), (5, .int (nI R))] (by decide) rfl ?_
                    refine tg_iinc C (nI (R + 1)) dX5_distanceOf_83 86 rfl 7 rfl (nI_add R 1) [(5, .int (nI (R + 1))), (3, .int (nI (a8 + 1))), (2, .int (nI (s8 + (a8 - (rkN (cntN wh wd kp tx t) R))))), (7, .int (nI (a8 - (rkN (cntN wh wd kp tx t) R)))), (6, .int (nI (rkN (cntN wh wd kp tx t) R))), (0, .ref (ad 89)), (1, .int (nI t)), (4, .int (nI (M + 1)))] (by decide) rfl ?_
                    refine tg_goto C 18 dX5_distanceOf_86 (by decide) ?_
                    refine tg_sub [5, 6, 2, 1, 7, 0] rfl ?_
                    exact ih18 (R + 1) (a8 + 1) (s8 + (a8 - (rkN (cntN wh wd kp tx t) R))) ⟨by omega, by rw [ha2, ahN_eq (by omega) c33], by rw [hs2, dsM_eq (by omega) c33]; unfold dst1; first | (rw [if_neg (by omega), if_pos hz]; done) | (rw [if_neg (by omega), if_neg hz, ← ahN_rk c33, ← ha2]; unfold absd; first | (rw [if_pos (by omega)]; done) | (rw [if_neg (by omega)]))⟩ (by omega)
                  · -- on
                    replace c48 : ¬ (rkN (cntN wh wd kp tx t) R) ≤ a8 := fun q => c48 ((nI_leI (by omega) (by omega)).mpr q)
                    refine tg_iload C dX5_distanceOf_51 53 rfl 0 rfl ?_
                    refine tg_iload_n C dX5_distanceOf_53 54 rfl rfl 4 rfl ?_
                    refine tg_isub C (nI ((rkN (cntN wh wd kp tx t) R) - a8)) dX5_distanceOf_54 55 rfl (pk_sub (by omega)) ?_
                    refine tg_goto C 62 dX5_distanceOf_55 (by decide) ?_
                    refine tg_istore C dX5_distanceOf_62 64 rfl [(7, .int (nI ((rkN (cntN wh wd kp tx t) R) - a8))), (6, .int (nI (rkN (cntN wh wd kp tx t) R))), (0, .ref (ad 89)), (1, .int (nI t)), (2, .int (nI s8)), (3, .int (nI a8)), (4, .int (nI (M + 1))), (5, .int (nI R))] (by decide) rfl ?_
                    refine tg_iload_n C dX5_distanceOf_64 65 rfl rfl 4 rfl ?_
                    refine tg_iload C dX5_distanceOf_65 67 rfl 1 rfl ?_
                    refine tg_iconst C (-1) dX5_distanceOf_67 68 rfl (by decide) ?_
                    refine tg_icmp_ne C 76 dX5_distanceOf_68 (by decide) 71 rfl (fun c68 => ?_) (fun c68 => absurd c68 (m1_ne (by omega)))
                    refine tg_iload C dX5_distanceOf_76 78 rfl 0 rfl ?_
                    refine tg_iadd C (nI (s8 + ((rkN (cntN wh wd kp tx t) R) - a8))) dX5_distanceOf_78 79 rfl (nI_add s8 ((rkN (cntN wh wd kp tx t) R) - a8)) ?_
                    refine tg_istore_n C dX5_distanceOf_79 80 rfl rfl [(2, .int (nI (s8 + ((rkN (cntN wh wd kp tx t) R) - a8)))), (7, .int (nI ((rkN (cntN wh wd kp tx t) R) - a8))), (6, .int (nI (rkN (cntN wh wd kp tx t) R))), (0, .ref (ad 89)), (1, .int (nI t)), (3, .int (nI a8)), (4, .int (nI (M + 1))), (5, .int (nI R))] (by decide) rfl ?_
                    refine tg_iinc C (nI (a8 + 1)) dX5_distanceOf_80 83 rfl 5 rfl (nI_add a8 1) [(3, .int (nI (a8 + 1))), (2, .int (nI (s8 + ((rkN (cntN wh wd kp tx t) R) - a8)))), (7, .int (nI ((rkN (cntN wh wd kp tx t) R) - a8))), (6, .int (nI (rkN (cntN wh wd kp tx t) R))), (0, .ref (ad 89)), (1, .int (nI t)), (4, .int (nI (M + 1))), (5, .int (nI R))] (by decide) rfl ?_
                    refine tg_iinc C (nI (R + 1)) dX5_distanceOf_83 86 rfl 7 rfl (nI_add R 1) [(5, .int (nI (R + 1))), (3, .int (nI (a8 + 1))), (2, .int (nI (s8 + ((rkN (cntN wh wd kp tx t) R) - a8)))), (7, .int (nI ((rkN (cntN wh wd kp tx t) R) - a8))), (6, .int (nI (rkN (cntN wh wd kp tx t) R))), (0, .ref (ad 89)), (1, .int (nI t)), (4, .int (nI (M + 1)))] (by decide) rfl ?_
                    refine tg_goto C 18 dX5_distanceOf_86 (by decide) ?_
                    refine tg_sub [5, 6, 2, 1, 7, 0] rfl ?_
                    exact ih18 (R + 1) (a8 + 1) (s8 + ((rkN (cntN wh wd kp tx t) R) - a8)) ⟨by omega, by rw [ha2, ahN_eq (by omega) c33], by rw [hs2, dsM_eq (by omega) c33]; unfold dst1; first | (rw [if_neg (by omega), if_pos hz]; done) | (rw [if_neg (by omega), if_neg hz, ← ahN_rk c33, ← ha2]; unfold absd; first | (rw [if_pos (by omega)]; done) | (rw [if_neg (by omega)]))⟩ (by omega)
        refine tg_sub [1, 2, 3, 4, 5, 0] rfl ?_
        exact L18 _ 0 a9 s9 ⟨by omega, ha, hs⟩ (Nat.lt_succ_self _)
  refine tg_sub [3, 4, 2, 1, 0] rfl ?_
  exact L10 _ (rc n) 0 0 ⟨Nat.le_refl _, (ahN_0 (fun o => ownN_le n w (rc n) o)).symm, (dsM_0 (fun o => ownN_le n w (rc n) o)).symm⟩ (Nat.lt_succ_self _)
