/-! ===== the class: what throws nothing ===== -/
/-! ===== the class's own state, as numbers ===== -/
def Xs (σ : sS) (tc mg pr : Nat) : Prop := σ 0 5 = nI tc ∧ σ 0 6 = nI mg ∧ σ 0 7 = nI pr ∧ tc ≤ 5 ∧ mg ≤ 100 ∧ pr ≤ 100
def Ta (σ : sS) (c : Nat → Nat → Nat) (m : Nat → Nat) : Prop := ∀ t, t < 5 → Tl σ (6 + t) (11 + t) (c t) (m t)
theorem Xs.fr {σ τ : sS} {tc mg pr : Nat} (h : Xs σ tc mg pr) (e : τ 0 = σ 0) : Xs τ tc mg pr := by
  unfold Xs at h ⊢
  rw [e]
  exact h
theorem Sp.fr {σ τ : sS} {n : Nat} {w : Nat → Nat} (h : Sp σ n w) (e1 : τ 1 = σ 1) (e2 : τ 2 = σ 2) : Sp τ n w := by
  unfold Sp at h ⊢
  rw [e1, e2]
  exact h
theorem Tl.fr {σ τ : sS} {a b m : Nat} {c : Nat → Nat} (h : Tl σ a b c m) (e1 : τ a = σ a) (e2 : τ b = σ b) : Tl τ a b c m := by
  unfold Tl at h ⊢
  rw [e1, e2]
  exact h
theorem Ta.fr {σ τ : sS} {c : Nat → Nat → Nat} {m : Nat → Nat} (h : Ta σ c m) (e : ∀ j, 6 ≤ j → j < 16 → τ j = σ j) : Ta τ c m := fun t ht => (h t ht).fr (e _ (by omega) (by omega)) (e _ (by omega) (by omega))
def bI (b : Bool) : Int32 := if b = true then nI 1 else nI 0
theorem bI_0 {b : Bool} : bI b = 0 ↔ b = false := by cases b <;> decide
theorem bI_n {b : Bool} : ¬ bI b = 0 ↔ b = true := by cases b <;> decide
theorem bI_z {b : Bool} : narrow .boolean (.int (bI b)) = .int (bI b) := by cases b <;> rfl
def lnI (x : Int32) : Int32 := if x = nI 32 then nI 0 else if nI 97 ≤ x ∧ x ≤ nI 101 then x - nI 97 + nI 1 else -1
/-- the cost of a text of n letters w in a tongue with counts c, m in all -/
def ctxN (n : Nat) (w : Nat → Nat) (c : Nat → Nat) (m : Nat) : Nat := sm (fun k => costN (c (rn n w k)) m) (rc n)
theorem ctxN_le {n : Nat} (h : n ≤ 16) (w : Nat → Nat) (c : Nat → Nat) (m : Nat) : ctxN n w c m ≤ 170 := by
  have h1 := sm_le (f := fun k => costN (c (rn n w k)) m) (B := 10) (rc n) (fun k _ => costN_le _ _)
  have h2 := rc_le h
  unfold ctxN
  omega
def sureb (f : Nat → Nat) (best lim : Nat) : Nat → Bool
  | 0 => true
  | n + 1 => sureb f best lim n && (decide (n = best) || decide (lim ≤ f n))
theorem sureb_step {f : Nat → Nat} {best lim n : Nat} (h : sureb f best lim n = true) (h2 : n = best ∨ lim ≤ f n) : sureb f best lim (n + 1) = true := by
  simp [sureb, h, h2]
theorem sureb_no {f : Nat → Nat} {best lim k : Nat} (h1 : ¬ k = best) (h2 : ¬ lim ≤ f k) : ∀ n, k < n → sureb f best lim n = false
  | 0, h => absurd h (Nat.not_lt_zero _)
  | n + 1, h => by
    rcases Nat.lt_or_ge k n with q | q
    · simp [sureb, sureb_no h1 h2 n q]
    · have e : k = n := by omega
      subst e
      simp [sureb, h1, h2]
def fitb (g : Nat → Nat) (least : Nat) : Nat → Bool
  | 0 => true
  | n + 1 => fitb g least n && decide (least ≤ g n)
theorem fitb_step {g : Nat → Nat} {least n : Nat} (h : fitb g least n = true) (h2 : least ≤ g n) : fitb g least (n + 1) = true := by
  simp [fitb, h, h2]
theorem fitb_no {g : Nat → Nat} {least k : Nat} (h2 : ¬ least ≤ g k) : ∀ n, k < n → fitb g least n = false
  | 0, h => absurd h (Nat.not_lt_zero _)
  | n + 1, h => by
    rcases Nat.lt_or_ge k n with q | q
    · simp [fitb, fitb_no h2 n q]
    · have e : k = n := by omega
      subst e
      simp [fitb, h2]
def tlI (n tc mg : Nat) (f : Nat → Nat) : Int32 := if n < 4 ∨ tc = 0 then -1 else if sureb f (amin f tc) (f (amin f tc) + mg) tc = true then nI (amin f tc) else -1
def tbI (n tc : Nat) (g : Nat → Nat) : Int32 := if n = 0 ∨ tc = 0 then -1 else nI (amin g tc)
/-- how often run r is among the first i of the text -/
def ownN (n : Nat) (w : Nat → Nat) (i r : Nat) : Nat := sm (fun k => if rn n w k = r then 1 else 0) i
theorem ownN_le (n : Nat) (w : Nat → Nat) (i r : Nat) : ownN n w i r ≤ i := by
  have := sm_le (f := fun k => if rn n w k = r then 1 else 0) (B := 1) i (fun k _ => by split <;> omega)
  unfold ownN
  omega
def absd (a b : Nat) : Nat := if b ≤ a then a - b else b - a
theorem abs_nI {a b : Nat} (ha : a ≤ 1000) (hb : b ≤ 1000) : (if 0 ≤ nI a - nI b then nI a - nI b else 0 - (nI a - nI b)) = nI (absd a b) := by
  unfold absd
  by_cases h : b ≤ a
  · rw [pk_sub h, if_pos (nI_pos' (by omega)), if_pos h]
  · have h1 : nI a - nI b < 0 := pk_sneg (by omega) (by omega)
    rw [if_neg (Int32.not_le.mpr h1), if_neg h]
    have h2 : 0 - (nI a - nI b) = nI b - nI a := by
      rw [Int32.zero_sub, Int32.neg_sub]
    rw [h2, pk_sub (by omega)]
theorem rkI_m1 {c : Nat → Nat} {r : Nat} : rkI c r = -1 ↔ c r = 0 := by
  unfold rkI
  split
  · simp [*]
  · have := rkN_le c r
    exact ⟨fun q => absurd q (m1_ne (by omega)), fun q => by contradiction⟩
theorem rkI_of {c : Nat → Nat} {r : Nat} (h : ¬ c r = 0) : rkI c r = nI (rkN c r) := if_neg h
/-- the part of run r in a distance -/
def dst1 (c0 c : Nat → Nat) (r : Nat) : Nat := if c0 r = 0 then 0 else if c r = 0 then 36 else absd (rkN c0 r) (rkN c r)
def dstN (c0 c : Nat → Nat) : Nat := sm (dst1 c0 c) 36
theorem dst1_le (c0 c : Nat → Nat) (r : Nat) : dst1 c0 c r ≤ 36 := by
  have h1 := rkN_le c0 r
  have h2 := rkN_le c r
  unfold dst1 absd
  split
  · omega
  · split
    · omega
    · split <;> omega
theorem dstN_le (c0 c : Nat → Nat) : dstN c0 c ≤ 1296 := Nat.le_trans (sm_le (f := dst1 c0 c) (B := 36) 36 (fun k _ => dst1_le c0 c k)) (by decide)
set_option maxHeartbeats 4000000 in
set_option maxRecDepth 100000 in
theorem c_X4_letterNumber (l : Launch) (D : va_G) (cy : Nat → ClassId) (ad : Nat → Nat) (hDis : Dis ad) (σ : sS) {x : Int32} : Mi l yX4_letterNumber wsX4_letterNumber 0 0 D cy ad [.int x] σ (fun r τ => r = lnI x ∧ σ = τ) := by
  refine Mi.of (cc := cX4_letterNumber) (nL := 1) (own := RX4) hDis (by decide) rfl [(0, .int x)] rfl (Nat.le_of_ble_eq_true rfl) rfl ?_
  intro p e s m args below meth c A Q C hret
  refine tg_iload_n C dX4_letterNumber_0 1 rfl rfl 0 rfl ?_
  refine tg_bipush C (nI 32) dX4_letterNumber_1 3 rfl (by decide) ?_
  refine tg_icmp_ne C 8 dX4_letterNumber_3 (by decide) 6 rfl (fun c3 => ?_) (fun c3 => ?_)
  · -- to 8
    refine tg_iload_n C dX4_letterNumber_8 9 rfl rfl 0 rfl ?_
    refine tg_bipush C (nI 97) dX4_letterNumber_9 11 rfl (by decide) ?_
    refine tg_icmp_lt C 27 dX4_letterNumber_11 (by decide) 14 rfl (fun c11 => ?_) (fun c11 => ?_)
    · -- to 27
      refine tg_iconst C (-1) dX4_letterNumber_27 28 rfl (by decide) ?_
      exact hret dX4_letterNumber_28 ⟨by unfold lnI; rw [if_neg c3, if_neg (fun q => by first | exact absurd c11 (Int32.not_lt.mpr q.1) | exact absurd c17 (Int32.not_lt.mpr q.2))], rfl⟩
    · -- on
      refine tg_iload_n C dX4_letterNumber_14 15 rfl rfl 0 rfl ?_
      refine tg_bipush C (nI 101) dX4_letterNumber_15 17 rfl (by decide) ?_
      refine tg_icmp_gt C 27 dX4_letterNumber_17 (by decide) 20 rfl (fun c17 => ?_) (fun c17 => ?_)
      · -- to 27
        refine tg_iconst C (-1) dX4_letterNumber_27 28 rfl (by decide) ?_
        exact hret dX4_letterNumber_28 ⟨by unfold lnI; rw [if_neg c3, if_neg (fun q => by first | exact absurd c11 (Int32.not_lt.mpr q.1) | exact absurd c17 (Int32.not_lt.mpr q.2))], rfl⟩
      · -- on
        refine tg_iload_n C dX4_letterNumber_20 21 rfl rfl 0 rfl ?_
        refine tg_bipush C (nI 97) dX4_letterNumber_21 23 rfl (by decide) ?_
        refine tg_isub C (x - nI 97) dX4_letterNumber_23 24 rfl (rfl) ?_
        refine tg_iconst C (nI 1) dX4_letterNumber_24 25 rfl (by decide) ?_
        refine tg_iadd C (x - nI 97 + nI 1) dX4_letterNumber_25 26 rfl (rfl) ?_
        exact hret dX4_letterNumber_26 ⟨by unfold lnI; rw [if_neg c3, if_pos ⟨Int32.not_lt.mp c11, Int32.not_lt.mp c17⟩], rfl⟩
  · -- on
    refine tg_iconst C (nI 0) dX4_letterNumber_6 7 rfl (by decide) ?_
    exact hret dX4_letterNumber_7 ⟨by unfold lnI; rw [if_pos c3], rfl⟩
set_option maxHeartbeats 4000000 in
set_option maxRecDepth 100000 in
theorem c_X4_newTongue (l : Launch) (D : va_G) (cy : Nat → ClassId) (ad : Nat → Nat) (hDis : Dis ad) (σ : sS) {tc mg pr : Nat} (hX : Xs σ tc mg pr) : Mi l yX4_newTongue wsX4_newTongue 0 0 D cy ad [.ref (ad 0)] σ (fun r τ => r = nI tc ∧ τ = su σ 0 5 (nI (tc + 1))) := by
  have w0 : Cond.fieldLink RX4 41 "Tonguetell" "tongueCount" "I" ∈ wsX4_newTongue := by decide +kernel
  have w1 : ∀ w ∈ wsX40, w ∈ wsX4_newTongue := by decide +kernel
  refine Mi.of (cc := cX4_newTongue) (nL := 2) (own := RX4) hDis (by decide) rfl [(0, .ref (ad 0))] rfl (Nat.le_of_ble_eq_true rfl) rfl ?_
  intro p e s m args below meth c A Q C hret
  refine tg_aload_n C dX4_newTongue_0 1 rfl rfl 0 rfl ?_
  refine tg_get (T := TX4) (N := 8) (Cn := RX4) C 0 (by decide) (e_0 ad cy _) rfl w1 5 (by decide) w0 rfl rfl dX4_newTongue_1 4 rfl ?_
  refine tg_top (y := nI tc) (hX.1) ?_
  refine tg_istore_n C dX4_newTongue_4 5 rfl rfl [(1, .int (nI tc)), (0, .ref (ad 0))] (by decide) rfl ?_
  refine tg_aload_n C dX4_newTongue_5 6 rfl rfl 1 rfl ?_
  refine tg_iload_n C dX4_newTongue_6 7 rfl rfl 0 rfl ?_
  refine tg_iconst C (nI 1) dX4_newTongue_7 8 rfl (by decide) ?_
  refine tg_iadd C (nI (tc + 1)) dX4_newTongue_8 9 rfl (nI_add tc 1) ?_
  refine tg_put (T := TX4) (N := 8) (Cn := RX4) C tyX4 tyX4_ok nmX4 0 (by decide) (e_0 ad cy _) rfl w1 5 (by decide) w0 rfl rfl (by decide +kernel) (Nat.le_of_ble_eq_true rfl) (e_0 ad cy _) dX4_newTongue_9 12 rfl ?_
  refine tg_iload_n C dX4_newTongue_12 13 rfl rfl 0 rfl ?_
  exact hret dX4_newTongue_13 ⟨rfl, rfl⟩
set_option maxHeartbeats 4000000 in
set_option maxRecDepth 100000 in
theorem c_X4_clearSpelled (l : Launch) (D : va_G) (cy : Nat → ClassId) (ad : Nat → Nat) (hDis : Dis ad) (σ : sS) {n : Nat} {w : Nat → Nat} (hS : Sp σ n w) : Mi l yX4_clearSpelled wsX4_clearSpelled 0 0 D cy ad [.ref (ad 0)] σ (fun r τ => r = nI n ∧ τ = su σ 1 1 (nI 0)) := by
  have w0 : Cond.fieldLink RX4 10 "Tonguetell" "spelled" "LTonguetell$Spelling;" ∈ wsX4_clearSpelled := by decide +kernel
  have w1 : ∀ w ∈ wsX40, w ∈ wsX4_clearSpelled := by decide +kernel
  have w2 : Cond.fieldLink RX4 62 "Tonguetell$Spelling" "length" "I" ∈ wsX4_clearSpelled := by decide +kernel
  have w3 : ∀ w ∈ wsX20, w ∈ wsX4_clearSpelled := by decide +kernel
  refine Mi.of (cc := cX4_clearSpelled) (nL := 2) (own := RX4) hDis (by decide) rfl [(0, .ref (ad 0))] rfl (Nat.le_of_ble_eq_true rfl) rfl ?_
  intro p e s m args below meth c A Q C hret
  refine tg_aload_n C dX4_clearSpelled_0 1 rfl rfl 0 rfl ?_
  refine tg_get (T := TX4) (N := 8) (Cn := RX4) C 0 (by decide) (e_0 ad cy _) rfl w1 0 (by decide) w0 rfl rfl dX4_clearSpelled_1 4 rfl ?_
  refine tg_get (T := TX2) (N := 2) (Cn := RX2) C 1 (by decide) (e_1 ad cy _) rfl w3 1 (by decide) w2 rfl rfl dX4_clearSpelled_4 7 rfl ?_
  refine tg_top (y := nI n) (hS.1) ?_
  refine tg_istore_n C dX4_clearSpelled_7 8 rfl rfl [(1, .int (nI n)), (0, .ref (ad 0))] (by decide) rfl ?_
  refine tg_aload_n C dX4_clearSpelled_8 9 rfl rfl 1 rfl ?_
  refine tg_get (T := TX4) (N := 8) (Cn := RX4) C 0 (by decide) (e_0 ad cy _) rfl w1 0 (by decide) w0 rfl rfl dX4_clearSpelled_9 12 rfl ?_
  refine tg_iconst C (nI 0) dX4_clearSpelled_12 13 rfl (by decide) ?_
  refine tg_put (T := TX2) (N := 2) (Cn := RX2) C tyX2 tyX2_ok nmX2 1 (by decide) (e_1 ad cy _) rfl w3 1 (by decide) w2 rfl rfl (by decide +kernel) (Nat.le_of_ble_eq_true rfl) (e_1 ad cy _) dX4_clearSpelled_13 16 rfl ?_
  refine tg_iload_n C dX4_clearSpelled_16 17 rfl rfl 0 rfl ?_
  exact hret dX4_clearSpelled_17 ⟨rfl, rfl⟩
set_option maxHeartbeats 4000000 in
set_option maxRecDepth 100000 in
theorem c_X4_runs (l : Launch) (D : va_G) (cy : Nat → ClassId) (ad : Nat → Nat) (hDis : Dis ad) (σ : sS) {n : Nat} {w : Nat → Nat} (hS : Sp σ n w) : Mi l yX4_runs wsX4_runs 1 20 D cy ad [.ref (ad 0)] σ (fun r τ => r = nI (rc n) ∧ σ = τ) := by
  have w0 : Cond.fieldLink RX4 10 "Tonguetell" "spelled" "LTonguetell$Spelling;" ∈ wsX4_runs := by decide +kernel
  have w1 : ∀ w ∈ wsX40, w ∈ wsX4_runs := by decide +kernel
  refine Mi.of (cc := cX4_runs) (nL := 1) (own := RX4) hDis (by decide) rfl [(0, .ref (ad 0))] rfl (Nat.le_of_ble_eq_true rfl) rfl ?_
  intro p e s m args below meth c A Q C hret
  refine tg_aload_n C dX4_runs_0 1 rfl rfl 0 rfl ?_
  refine tg_get (T := TX4) (N := 8) (Cn := RX4) C 0 (by decide) (e_0 ad cy _) rfl w1 0 (by decide) w0 rfl rfl dX4_runs_1 4 rfl ?_
  refine tg_callVi C 1 (by decide) (e_1 ad cy _) rfl (c_X2_runCount l D cy ad hDis σ hS) (cwV 0 C.2.2.2.2.1 gX4_runs_X2_runCount rfl rfl rfl (by decide +kernel) ⟨Nat.le_of_ble_eq_true rfl, Nat.le_of_ble_eq_true rfl⟩) rfl rfl (Nat.le_of_ble_eq_true rfl) ⟨Nat.le_of_ble_eq_true rfl, Nat.le_of_ble_eq_true rfl⟩ dX4_runs_4 7 rfl (fun r4 τ4 h4 => ?_)
  obtain ⟨h4, h4s⟩ := h4
  subst h4s
  subst h4
  exact hret dX4_runs_7 ⟨rfl, rfl⟩
set_option maxHeartbeats 4000000 in
set_option maxRecDepth 100000 in
theorem c_X4_tongues (l : Launch) (D : va_G) (cy : Nat → ClassId) (ad : Nat → Nat) (hDis : Dis ad) (σ : sS) {tc mg pr : Nat} (hX : Xs σ tc mg pr) : Mi l yX4_tongues wsX4_tongues 0 0 D cy ad [.ref (ad 0)] σ (fun r τ => r = nI tc ∧ σ = τ) := by
  have w0 : Cond.fieldLink RX4 41 "Tonguetell" "tongueCount" "I" ∈ wsX4_tongues := by decide +kernel
  have w1 : ∀ w ∈ wsX40, w ∈ wsX4_tongues := by decide +kernel
  refine Mi.of (cc := cX4_tongues) (nL := 1) (own := RX4) hDis (by decide) rfl [(0, .ref (ad 0))] rfl (Nat.le_of_ble_eq_true rfl) rfl ?_
  intro p e s m args below meth c A Q C hret
  refine tg_aload_n C dX4_tongues_0 1 rfl rfl 0 rfl ?_
  refine tg_get (T := TX4) (N := 8) (Cn := RX4) C 0 (by decide) (e_0 ad cy _) rfl w1 5 (by decide) w0 rfl rfl dX4_tongues_1 4 rfl ?_
  refine tg_top (y := nI tc) (hX.1) ?_
  exact hret dX4_tongues_4 ⟨rfl, rfl⟩
set_option maxHeartbeats 4000000 in
set_option maxRecDepth 100000 in
theorem c_X4_costOfSpelled (l : Launch) (D : va_G) (cy : Nat → ClassId) (ad : Nat → Nat) (hDis : Dis ad) (σ : sS) {n : Nat} {w : Nat → Nat} (hS : Sp σ n w) {ct : Nat → Nat → Nat} {mt : Nat → Nat} (hT : Ta σ ct mt) {t : Nat} (ht : t < 5) : Mi l yX4_costOfSpelled wsX4_costOfSpelled 2 42 D cy ad [.ref (ad 0), .int (nI t)] σ (fun r τ => r = nI (ctxN n w (ct t) (mt t)) ∧ σ = τ) := by
  have w0 : Cond.fieldLink RX4 10 "Tonguetell" "spelled" "LTonguetell$Spelling;" ∈ wsX4_costOfSpelled := by decide +kernel
  have w1 : ∀ w ∈ wsX40, w ∈ wsX4_costOfSpelled := by decide +kernel
  have w2 : Cond.fieldLink RX4 23 "Tonguetell" "tallies" "[LTonguetell$Tally;" ∈ wsX4_costOfSpelled := by decide +kernel
  have hn16 := hS.2.1
  have hrc := rc_le hn16
  have hrn := rn_lt (fun k h => (hS.2.2 k h).2)
  refine Mi.of (cc := cX4_costOfSpelled) (nL := 4) (own := RX4) hDis (by decide) rfl [(0, .ref (ad 0)), (1, .int (nI t))] rfl (Nat.le_of_ble_eq_true rfl) rfl ?_
  intro p e s m args below meth c A Q C hret
  refine tg_iconst C (nI 0) dX4_costOfSpelled_0 1 rfl (by decide) ?_
  refine tg_istore_n C dX4_costOfSpelled_1 2 rfl rfl [(2, .int (nI 0)), (0, .ref (ad 0)), (1, .int (nI t))] (by decide) rfl ?_
  refine tg_iconst C (nI 0) dX4_costOfSpelled_2 3 rfl (by decide) ?_
  refine tg_istore_n C dX4_costOfSpelled_3 4 rfl rfl [(3, .int (nI 0)), (2, .int (nI 0)), (0, .ref (ad 0)), (1, .int (nI t))] (by decide) rfl ?_
  have L4 : ∀ (n4 : Nat) (k a9 : Nat), (k ≤ rc n ∧ a9 = sm (fun k => costN (ct t (rn n w k)) (mt t)) k ∧ a9 ≤ 10 * k) → rc n - k < n4 → TT p l e (Rm 2 42) s m args below meth c D cy ad A 4 0 0 Q σ 4 [(0, .ref (ad 0)), (1, .int (nI t)), (2, .int (nI a9)), (3, .int (nI k))] [] := by
    intro n4
    induction n4 with
    | zero => intro k a9 _ hn4; exact absurd hn4 (Nat.not_lt_zero _)
    | succ n4 ih4 =>
      intro k a9 ⟨hk, ha, hb⟩ hn4
      refine tg_iload_n C dX4_costOfSpelled_4 5 rfl rfl 3 rfl ?_
      refine tg_aload_n C dX4_costOfSpelled_5 6 rfl rfl 0 rfl ?_
      refine tg_get (T := TX4) (N := 8) (Cn := RX4) C 0 (by decide) (e_0 ad cy _) rfl w1 0 (by decide) w0 rfl rfl dX4_costOfSpelled_6 9 rfl ?_
      refine tg_callVi C 1 (by decide) (e_1 ad cy _) rfl (c_X2_runCount l D cy ad hDis σ hS) (cwV 0 C.2.2.2.2.1 gX4_costOfSpelled_X2_runCount rfl rfl rfl (by decide +kernel) ⟨Nat.le_of_ble_eq_true rfl, Nat.le_of_ble_eq_true rfl⟩) rfl rfl (Nat.le_of_ble_eq_true rfl) ⟨Nat.le_of_ble_eq_true rfl, Nat.le_of_ble_eq_true rfl⟩ dX4_costOfSpelled_9 12 rfl (fun r9 τ9 h9 => ?_)
      obtain ⟨h9, h9s⟩ := h9
      subst h9s
      subst h9
      refine tg_icmp_ge C 41 dX4_costOfSpelled_12 (by decide) 15 rfl (fun c12 => ?_) (fun c12 => ?_)
      · -- to 41
        replace c12 : (rc n) ≤ k := (nI_leI (by omega) (by omega)).mp c12
        refine tg_iload_n C dX4_costOfSpelled_41 42 rfl rfl 2 rfl ?_
        exact hret dX4_costOfSpelled_42 ⟨by rw [ha, show k = rc n by omega]; rfl, rfl⟩
      · -- on
        replace c12 : ¬ (rc n) ≤ k := fun q => c12 ((nI_leI (by omega) (by omega)).mpr q)
        refine tg_iload_n C dX4_costOfSpelled_15 16 rfl rfl 2 rfl ?_
        refine tg_aload_n C dX4_costOfSpelled_16 17 rfl rfl 0 rfl ?_
        refine tg_get (T := TX4) (N := 8) (Cn := RX4) C 0 (by decide) (e_0 ad cy _) rfl w1 2 (by decide) w2 rfl rfl dX4_costOfSpelled_17 20 rfl ?_
        refine tg_iload_n C dX4_costOfSpelled_20 21 rfl rfl 1 rfl ?_
        refine tg_aald C 5 1 (by decide) (e_5 ad cy _) rfl rfl t rfl (by omega) (by decide) dX4_costOfSpelled_21 22 rfl ?_
        refine tg_aload_n C dX4_costOfSpelled_22 23 rfl rfl 0 rfl ?_
        refine tg_get (T := TX4) (N := 8) (Cn := RX4) C 0 (by decide) (e_0 ad cy _) rfl w1 0 (by decide) w0 rfl rfl dX4_costOfSpelled_23 26 rfl ?_
        refine tg_iload_n C dX4_costOfSpelled_26 27 rfl rfl 3 rfl ?_
        refine tg_callVi C 1 (by decide) (e_1 ad cy _) rfl (c_X2_runNumber l D cy ad hDis σ hS (k := k) (by omega)) (cwV 1 C.2.2.2.2.1 gX4_costOfSpelled_X2_runNumber rfl rfl rfl (by decide +kernel) ⟨Nat.le_of_ble_eq_true rfl, Nat.le_of_ble_eq_true rfl⟩) rfl rfl (Nat.le_of_ble_eq_true rfl) ⟨Nat.le_of_ble_eq_true rfl, Nat.le_of_ble_eq_true rfl⟩ dX4_costOfSpelled_27 30 rfl (fun r27 τ27 h27 => ?_)
        obtain ⟨h27, h27s⟩ := h27
        subst h27s
        subst h27
        have hcc := costN_le (ct t (rn n w k)) (mt t)
        refine tg_callVi C (6 + t) (isTy.at (show t < 5 by omega)).lt ((isTy.at (show t < 5 by omega)).e ad cy _) rfl (c_X3_costOf l D cy ad hDis σ (isTy.at ht) (hT t ht) (r9 := rn n w k) (hrn k)) (cwV 1 C.2.2.2.2.1 gX4_costOfSpelled_X3_costOf rfl rfl rfl (by decide +kernel) ⟨Nat.le_of_ble_eq_true rfl, Nat.le_of_ble_eq_true rfl⟩) rfl rfl (Nat.le_of_ble_eq_true rfl) ⟨Nat.le_of_ble_eq_true rfl, Nat.le_of_ble_eq_true rfl⟩ dX4_costOfSpelled_30 33 rfl (fun r30 τ30 h30 => ?_)
        obtain ⟨h30, h30s⟩ := h30
        subst h30s
        subst h30
        refine tg_iadd C (nI (a9 + (costN (ct t (rn n w k)) (mt t)))) dX4_costOfSpelled_33 34 rfl (nI_add a9 (costN (ct t (rn n w k)) (mt t))) ?_
        refine tg_istore_n C dX4_costOfSpelled_34 35 rfl rfl [(2, .int (nI (a9 + (costN (ct t (rn n w k)) (mt t))))), (0, .ref (ad 0)), (1, .int (nI t)), (3, .int (nI k))] (by decide) rfl ?_
        refine tg_iinc C (nI (k + 1)) dX4_costOfSpelled_35 38 rfl 3 rfl (nI_add k 1) [(3, .int (nI (k + 1))), (2, .int (nI (a9 + (costN (ct t (rn n w k)) (mt t))))), (0, .ref (ad 0)), (1, .int (nI t))] (by decide) rfl ?_
        refine tg_goto C 4 dX4_costOfSpelled_38 (by decide) ?_
        refine tg_sub [2, 3, 1, 0] rfl ?_
        exact ih4 (k + 1) (a9 + costN (ct t (rn n w k)) (mt t)) ⟨by omega, by rw [ha]; rfl, by omega⟩ (by omega)
  refine tg_sub [2, 3, 1, 0] rfl ?_
  exact L4 _ 0 0 ⟨by omega, rfl, by omega⟩ (Nat.lt_succ_self _)
