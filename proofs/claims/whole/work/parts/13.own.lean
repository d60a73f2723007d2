/-! ===== the class: what throws nothing ===== -/
/-! ===== the class's own state, as numbers ===== -/
def Xs (σ : sS) (tc mg pr : Nat) : Prop := σ 0 5 = nI tc ∧ σ 0 6 = nI mg ∧ σ 0 7 = nI pr ∧ tc ≤ 5 ∧ mg ≤ 100 ∧ pr ≤ 100
def Ta (σ : sS) (c : Nat → Nat → Nat) (m : Nat → Nat) : Prop := ∀ t, t < 5 → Tl σ (6 + t) (11 + t) (c t) (m t)
theorem Xs.fr {σ τ : sS} {tc mg pr : Nat} (h : Xs σ tc mg pr) (e : τ 0 = σ 0) : Xs τ tc mg pr := by
  unfold Xs at h ⊢
  rw [e]
  exact h
theorem Sp.fr {σ τ : sS} {n : Nat} {w : Nat → Nat} (h : Sp σ n w) (e1 : τ 1 = σ 1) (e2 : τ 2 = σ 2) : Sp τ n w := by
  unfold Sp at h ⊢
  rw [e1, e2]
  exact h
theorem Tl.fr {σ τ : sS} {a b m : Nat} {c : Nat → Nat} (h : Tl σ a b c m) (e1 : τ a = σ a) (e2 : τ b = σ b) : Tl τ a b c m := by
  unfold Tl at h ⊢
  rw [e1, e2]
  exact h
theorem Ta.fr {σ τ : sS} {c : Nat → Nat → Nat} {m : Nat → Nat} (h : Ta σ c m) (e : ∀ j, 6 ≤ j → j < 16 → τ j = σ j) : Ta τ c m := fun t ht => (h t ht).fr (e _ (by omega) (by omega)) (e _ (by omega) (by omega))
def bI (b : Bool) : Int32 := if b = true then nI 1 else nI 0
theorem bI_0 {b : Bool} : bI b = 0 ↔ b = false := by cases b <;> decide
theorem bI_n {b : Bool} : ¬ bI b = 0 ↔ b = true := by cases b <;> decide
theorem bI_z {b : Bool} : narrow .boolean (.int (bI b)) = .int (bI b) := by cases b <;> rfl
def lnI (x : Int32) : Int32 := if x = nI 32 then nI 0 else if nI 97 ≤ x ∧ x ≤ nI 101 then x - nI 97 + nI 1 else -1
/-- the cost of a text of n letters w in a tongue with counts c, m in all -/
def ctxN (n : Nat) (w : Nat → Nat) (c : Nat → Nat) (m : Nat) : Nat := sm (fun k => costN (c (rn n w k)) m) (rc n)
theorem ctxN_le {n : Nat} (h : n ≤ 16) (w : Nat → Nat) (c : Nat → Nat) (m : Nat) : ctxN n w c m ≤ 170 := by
  have h1 := sm_le (f := fun k => costN (c (rn n w k)) m) (B := 10) (rc n) (fun k _ => costN_le _ _)
  have h2 := rc_le h
  unfold ctxN
  omega
def sureb (f : Nat → Nat) (best lim : Nat) : Nat → Bool
  | 0 => true
  | n + 1 => sureb f best lim n && (decide (n = best) || decide (lim ≤ f n))
theorem sureb_step {f : Nat → Nat} {best lim n : Nat} (h : sureb f best lim n = true) (h2 : n = best ∨ lim ≤ f n) : sureb f best lim (n + 1) = true := by
  simp [sureb, h, h2]
theorem sureb_no {f : Nat → Nat} {best lim k : Nat} (h1 : ¬ k = best) (h2 : ¬ lim ≤ f k) : ∀ n, k < n → sureb f best lim n = false
  | 0, h => absurd h (Nat.not_lt_zero _)
  | n + 1, h => by
    rcases Nat.lt_or_ge k n with q | q
    · simp [sureb, sureb_no h1 h2 n q]
    · have e : k = n := by omega
      subst e
      simp [sureb, h1, h2]
def fitb (g : Nat → Nat) (least : Nat) : Nat → Bool
  | 0 => true
  | n + 1 => fitb g least n && decide (least ≤ g n)
theorem fitb_step {g : Nat → Nat} {least n : Nat} (h : fitb g least n = true) (h2 : least ≤ g n) : fitb g least (n + 1) = true := by
  simp [fitb, h, h2]
theorem fitb_no {g : Nat → Nat} {least k : Nat} (h2 : ¬ least ≤ g k) : ∀ n, k < n → fitb g least n = false
  | 0, h => absurd h (Nat.not_lt_zero _)
  | n + 1, h => by
    rcases Nat.lt_or_ge k n with q | q
    · simp [fitb, fitb_no h2 n q]
    · have e : k = n := by omega
      subst e
      simp [fitb, h2]
def tlI (n tc mg : Nat) (f : Nat → Nat) : Int32 := if n < 4 ∨ tc = 0 then -1 else if sureb f (amin f tc) (f (amin f tc) + mg) tc = true then nI (amin f tc) else -1
def tbI (n tc : Nat) (g : Nat → Nat) : Int32 := if n = 0 ∨ tc = 0 then -1 else nI (amin g tc)
/-- how often run r is among the first i of the text -/
def ownN (n : Nat) (w : Nat → Nat) (i r : Nat) : Nat := sm (fun k => if rn n w k = r then 1 else 0) i
theorem ownN_le (n : Nat) (w : Nat → Nat) (i r : Nat) : ownN n w i r ≤ i := by
  have := sm_le (f := fun k => if rn n w k = r then 1 else 0) (B := 1) i (fun k _ => by split <;> omega)
  unfold ownN
  omega
def absd (a b : Nat) : Nat := if b ≤ a then a - b else b - a
theorem abs_nI {a b : Nat} (ha : a ≤ 1000) (hb : b ≤ 1000) : (if 0 ≤ nI a - nI b then nI a - nI b else 0 - (nI a - nI b)) = nI (absd a b) := by
  unfold absd
  by_cases h : b ≤ a
  · rw [pk_sub h, if_pos (nI_pos' (by omega)), if_pos h]
  · have h1 : nI a - nI b < 0 := pk_sneg (by omega) (by omega)
    rw [if_neg (Int32.not_le.mpr h1), if_neg h]
    have h2 : 0 - (nI a - nI b) = nI b - nI a := by
      rw [Int32.zero_sub, Int32.neg_sub]
    rw [h2, pk_sub (by omega)]
theorem rkI_m1 {c : Nat → Nat} {r : Nat} : rkI c r = -1 ↔ c r = 0 := by
  unfold rkI
  split
  · simp [*]
  · have := rkN_le c r
    exact ⟨fun q => absurd q (m1_ne (by omega)), fun q => by contradiction⟩
theorem rkI_of {c : Nat → Nat} {r : Nat} (h : ¬ c r = 0) : rkI c r = nI (rkN c r) := if_neg h
/-- the part of run r in a distance -/
def dst1 (c0 c : Nat → Nat) (r : Nat) : Nat := if c0 r = 0 then 0 else if c r = 0 then 36 else absd (rkN c0 r) (rkN c r)
def dstN (c0 c : Nat → Nat) : Nat := sm (dst1 c0 c) 36
theorem dst1_le (c0 c : Nat → Nat) (r : Nat) : dst1 c0 c r ≤ 36 := by
  have h1 := rkN_le c0 r
  have h2 := rkN_le c r
  unfold dst1 absd
  split
  · omega
  · split
    · omega
    · split <;> omega
theorem dstN_le (c0 c : Nat → Nat) : dstN c0 c ≤ 1296 := Nat.le_trans (sm_le (f := dst1 c0 c) (B := 36) 36 (fun k _ => dst1_le c0 c k)) (by decide)
set_option maxHeartbeats 4000000 in
set_option maxRecDepth 100000 in
theorem c_X4_letterNumber (l : Launch) (D : va_G) (cy : Nat → ClassId) (ad : Nat → Nat) (hDis : Dis ad) (σ : sS) {x : Int32} : Mi l yX4_letterNumber wsX4_letterNumber 0 0 D cy ad [.int x] σ (fun r τ => r = lnI x ∧ σ = τ) := by
  refine Mi.of (cc := cX4_letterNumber) (nL := 1) (own := RX4) hDis (by decide) rfl [(0, .int x)] rfl (Nat.le_of_ble_eq_true rfl) rfl ?_
  intro p e s m args below meth c A Q C hret
  refine tg_iload_n C dX4_letterNumber_0 1 rfl rfl 0 rfl ?_
  refine tg_bipush C (nI 32) dX4_letterNumber_1 3 rfl (by decide) ?_
  refine tg_icmp_ne C 8 dX4_letterNumber_3 (by decide) 6 rfl (fun c3 => ?_) (fun c3 => ?_)
  · -- to 8
    refine tg_iload_n C dX4_letterNumber_8 9 rfl rfl 0 rfl ?_
    refine tg_bipush C (nI 97) dX4_letterNumber_9 11 rfl (by decide) ?_
    refine tg_icmp_lt C 27 dX4_letterNumber_11 (by decide) 14 rfl (fun c11 => ?_) (fun c11 => ?_)
    · -- to 27
      refine tg_iconst C (-1) dX4_letterNumber_27 28 rfl (by decide) ?_
      exact hret dX4_letterNumber_28 ⟨by unfold lnI; rw [if_neg c3, if_neg (fun q => by first | exact absurd c11 (Int32.not_lt.mpr q.1) | exact absurd c17 (Int32.not_lt.mpr q.2))], rfl⟩
    · -- on
      refine tg_iload_n C dX4_letterNumber_14 15 rfl rfl 0 rfl ?_
      refine tg_bipush C (nI 101) dX4_letterNumber_15 17 rfl (by decide) ?_
      refine tg_icmp_gt C 27 dX4_letterNumber_17 (by decide) 20 rfl (fun c17 => ?_) (fun c17 => ?_)
      · -- to 27
        refine tg_iconst C (-1) dX4_letterNumber_27 28 rfl (by decide) ?_
        exact hret dX4_letterNumber_28 ⟨by unfold lnI; rw [if_neg c3, if_neg (fun q => by first | exact absurd c11 (Int32.not_lt.mpr q.1) | exact absurd c17 (Int32.not_lt.mpr q.2))], rfl⟩
      · -- on
        refine tg_iload_n C dX4_letterNumber_20 21 rfl rfl 0 rfl ?_
        refine tg_bipush C (nI 97) dX4_letterNumber_21 23 rfl (by decide) ?_
        refine tg_isub C (x - nI 97) dX4_letterNumber_23 24 rfl (rfl) ?_
        refine tg_iconst C (nI 1) dX4_letterNumber_24 25 rfl (by decide) ?_
        refine tg_iadd C (x - nI 97 + nI 1) dX4_letterNumber_25 26 rfl (rfl) ?_
        exact hret dX4_letterNumber_26 ⟨by unfold lnI; rw [if_neg c3, if_pos ⟨Int32.not_lt.mp c11, Int32.not_lt.mp c17⟩], rfl⟩
  · -- on
    refine tg_iconst C (nI 0) dX4_letterNumber_6 7 rfl (by decide) ?_
    exact hret dX4_letterNumber_7 ⟨by unfold lnI; rw [if_pos c3], rfl⟩
set_option maxHeartbeats 4000000 in
set_option maxRecDepth 100000 in
theorem c_X4_newTongue (l : Launch) (D : va_G) (cy : Nat → ClassId) (ad : Nat → Nat) (hDis : Dis ad) (σ : sS) {tc mg pr : Nat} (hX : Xs σ tc mg pr) : Mi l yX4_newTongue wsX4_newTongue 0 0 D cy ad [.ref (ad 0)] σ (fun r τ => r = nI tc ∧ τ = su σ 0 5 (nI (tc + 1))) := by
  have w0 : Cond.fieldLink RX4 41 "Tonguetell" "tongueCount" "I" ∈ wsX4_newTongue := by decide +kernel
  have w1 : ∀ w ∈ wsX40, w ∈ wsX4_newTongue := by decide +kernel
  refine Mi.of (cc := cX4_newTongue) (nL := 2) (own := RX4) hDis (by decide) rfl [(0, .ref (ad 0))] rfl (Nat.le_of_ble_eq_true rfl) rfl ?_
  intro p e s m args below meth c A Q C hret
  refine tg_aload_n C dX4_newTongue_0 1 rfl rfl 0 rfl ?_
  refine tg_get (T := TX4) (N := 8) (Cn := RX4) C 0 (by decide) (e_0 ad cy _) rfl w1 5 (by decide) w0 rfl rfl dX4_newTongue_1 4 rfl ?_
  refine tg_top (y := nI tc) (hX.1) ?_
  refine tg_istore_n C dX4_newTongue_4 5 rfl rfl [(1, .int (nI tc)), (0, .ref (ad 0))] (by decide) rfl ?_
  refine tg_aload_n C dX4_newTongue_5 6 rfl rfl 1 rfl ?_
  refine tg_iload_n C dX4_newTongue_6 7 rfl rfl 0 rfl ?_
  refine tg_iconst C (nI 1) dX4_newTongue_7 8 rfl (by decide) ?_
  refine tg_iadd C (nI (tc + 1)) dX4_newTongue_8 9 rfl (nI_add tc 1) ?_
  refine tg_put (T := TX4) (N := 8) (Cn := RX4) C tyX4 tyX4_ok nmX4 0 (by decide) (e_0 ad cy _) rfl w1 5 (by decide) w0 rfl rfl (by decide +kernel) (Nat.le_of_ble_eq_true rfl) (e_0 ad cy _) dX4_newTongue_9 12 rfl ?_
  refine tg_iload_n C dX4_newTongue_12 13 rfl rfl 0 rfl ?_
  exact hret dX4_newTongue_13 ⟨rfl, rfl⟩
set_option maxHeartbeats 4000000 in
set_option maxRecDepth 100000 in
theorem c_X4_clearSpelled (l : Launch) (D : va_G) (cy : Nat → ClassId) (ad : Nat → Nat) (hDis : Dis ad) (σ : sS) {n : Nat} {w : Nat → Nat} (hS : Sp σ n w) : Mi l yX4_clearSpelled wsX4_clearSpelled 0 0 D cy ad [.ref (ad 0)] σ (fun r τ => r = nI n ∧ τ = su σ 1 1 (nI 0)) := by
  have w0 : Cond.fieldLink RX4 10 "Tonguetell" "spelled" "LTonguetell$Spelling;" ∈ wsX4_clearSpelled := by decide +kernel
  have w1 : ∀ w ∈ wsX40, w ∈ wsX4_clearSpelled := by decide +kernel
  have w2 : Cond.fieldLink RX4 62 "Tonguetell$Spelling" "length" "I" ∈ wsX4_clearSpelled := by decide +kernel
  have w3 : ∀ w ∈ wsX20, w ∈ wsX4_clearSpelled := by decide +kernel
  refine Mi.of (cc := cX4_clearSpelled) (nL := 2) (own := RX4) hDis (by decide) rfl [(0, .ref (ad 0))] rfl (Nat.le_of_ble_eq_true rfl) rfl ?_
  intro p e s m args below meth c A Q C hret
  refine tg_aload_n C dX4_clearSpelled_0 1 rfl rfl 0 rfl ?_
  refine tg_get (T := TX4) (N := 8) (Cn := RX4) C 0 (by decide) (e_0 ad cy _) rfl w1 0 (by decide) w0 rfl rfl dX4_clearSpelled_1 4 rfl ?_
  refine tg_get (T := TX2) (N := 2) (Cn := RX2) C 1 (by decide) (e_1 ad cy _) rfl w3 1 (by decide) w2 rfl rfl dX4_clearSpelled_4 7 rfl ?_
  refine tg_top (y := nI n) (hS.1) ?_
  refine tg_istore_n C dX4_clearSpelled_7 8 rfl rfl [(1, .int (nI n)), (0, .ref (ad 0))] (by decide) rfl ?_
  refine tg_aload_n C dX4_clearSpelled_8 9 rfl rfl 1 rfl ?_
  refine tg_get (T := TX4) (N := 8) (Cn := RX4) C 0 (by decide) (e_0 ad cy _) rfl w1 0 (by decide) w0 rfl rfl dX4_clearSpelled_9 12 rfl ?_
  refine tg_iconst C (nI 0) dX4_clearSpelled_12 13 rfl (by decide) ?_
  refine tg_put (T := TX2) (N := 2) (Cn := RX2) C tyX2 tyX2_ok nmX2 1 (by decide) (e_1 ad cy _) rfl w3 1 (by decide) w2 rfl rfl (by decide +kernel) (Nat.le_of_ble_eq_true rfl) (e_1 ad cy _) dX4_clearSpelled_13 16 rfl ?_
  refine tg_iload_n C dX4_clearSpelled_16 17 rfl rfl 0 rfl ?_
  exact hret dX4_clearSpelled_17 ⟨rfl, rfl⟩
set_option maxHeartbeats 4000000 in
set_option maxRecDepth 100000 in
theorem c_X4_runs (l : Launch) (D : va_G) (cy : Nat → ClassId) (ad : Nat → Nat) (hDis : Dis ad) (σ : sS) {n : Nat} {w : Nat → Nat} (hS : Sp σ n w) : Mi l yX4_runs wsX4_runs 1 20 D cy ad [.ref (ad 0)] σ (fun r τ => r = nI (rc n) ∧ σ = τ) := by
  have w0 : Cond.fieldLink RX4 10 "Tonguetell" "spelled" "LTonguetell$Spelling;" ∈ wsX4_runs := by decide +kernel
  have w1 : ∀ w ∈ wsX40, w ∈ wsX4_runs := by decide +kernel
  refine Mi.of (cc := cX4_runs) (nL := 1) (own := RX4) hDis (by decide) rfl [(0, .ref (ad 0))] rfl (Nat.le_of_ble_eq_true rfl) rfl ?_
  intro p e s m args below meth c A Q C hret
  refine tg_aload_n C dX4_runs_0 1 rfl rfl 0 rfl ?_
  refine tg_get (T := TX4) (N := 8) (Cn := RX4) C 0 (by decide) (e_0 ad cy _) rfl w1 0 (by decide) w0 rfl rfl dX4_runs_1 4 rfl ?_
  refine tg_callVi C 1 (by decide) (e_1 ad cy _) rfl (c_X2_runCount l D cy ad hDis σ hS) (cwV 0 C.2.2.2.2.1 gX4_runs_X2_runCount rfl rfl rfl (by decide +kernel) ⟨Nat.le_of_ble_eq_true rfl, Nat.le_of_ble_eq_true rfl⟩) rfl rfl (Nat.le_of_ble_eq_true rfl) ⟨Nat.le_of_ble_eq_true rfl, Nat.le_of_ble_eq_true rfl⟩ dX4_runs_4 7 rfl (fun r4 τ4 h4 => ?_)
  obtain ⟨h4, h4s⟩ := h4
  subst h4s
  subst h4
  exact hret dX4_runs_7 ⟨rfl, rfl⟩
set_option maxHeartbeats 4000000 in
set_option maxRecDepth 100000 in
theorem c_X4_tongues (l : Launch) (D : va_G) (cy : Nat → ClassId) (ad : Nat → Nat) (hDis : Dis ad) (σ : sS) {tc mg pr : Nat} (hX : Xs σ tc mg pr) : Mi l yX4_tongues wsX4_tongues 0 0 D cy ad [.ref (ad 0)] σ (fun r τ => r = nI tc ∧ σ = τ) := by
  have w0 : Cond.fieldLink RX4 41 "Tonguetell" "tongueCount" "I" ∈ wsX4_tongues := by decide +kernel
  have w1 : ∀ w ∈ wsX40, w ∈ wsX4_tongues := by decide +kernel
  refine Mi.of (cc := cX4_tongues) (nL := 1) (own := RX4) hDis (by decide) rfl [(0, .ref (ad 0))] rfl (Nat.le_of_ble_eq_true rfl) rfl ?_
  intro p e s m args below meth c A Q C hret
  refine tg_aload_n C dX4_tongues_0 1 rfl rfl 0 rfl ?_
  refine tg_get (T := TX4) (N := 8) (Cn := RX4) C 0 (by decide) (e_0 ad cy _) rfl w1 5 (by decide) w0 rfl rfl dX4_tongues_1 4 rfl ?_
  refine tg_top (y := nI tc) (hX.1) ?_
  exact hret dX4_tongues_4 ⟨rfl, rfl⟩
set_option maxHeartbeats 4000000 in
set_option maxRecDepth 100000 in
theorem c_X4_costOfSpelled (l : Launch) (D : va_G) (cy : Nat → ClassId) (ad : Nat → Nat) (hDis : Dis ad) (σ : sS) {n : Nat} {w : Nat → Nat} (hS : Sp σ n w) {ct : Nat → Nat → Nat} {mt : Nat → Nat} (hT : Ta σ ct mt) {t : Nat} (ht : t < 5) : Mi l yX4_costOfSpelled wsX4_costOfSpelled 2 42 D cy ad [.ref (ad 0), .int (nI t)] σ (fun r τ => r = nI (ctxN n w (ct t) (mt t)) ∧ σ = τ) := by
  have w0 : Cond.fieldLink RX4 10 "Tonguetell" "spelled" "LTonguetell$Spelling;" ∈ wsX4_costOfSpelled := by decide +kernel
  have w1 : ∀ w ∈ wsX40, w ∈ wsX4_costOfSpelled := by decide +kernel
  have w2 : Cond.fieldLink RX4 23 "Tonguetell" "tallies" "[LTonguetell$Tally;" ∈ wsX4_costOfSpelled := by decide +kernel
  have hn16 := hS.2.1
  have hrc := rc_le hn16
  have hrn := rn_lt (fun k h => (hS.2.2 k h).2)
  refine Mi.of (cc := cX4_costOfSpelled) (nL := 4) (own := RX4) hDis (by decide) rfl [(0, .ref (ad 0)), (1, .int (nI t))] rfl (Nat.le_of_ble_eq_true rfl) rfl ?_
  intro p e s m args below meth c A Q C hret
  refine tg_iconst C (nI 0) dX4_costOfSpelled_0 1 rfl (by decide) ?_
  refine tg_istore_n C dX4_costOfSpelled_1 2 rfl rfl [(2, .int (nI 0)), (0, .ref (ad 0)), (1, .int (nI t))] (by decide) rfl ?_
  refine tg_iconst C (nI 0) dX4_costOfSpelled_2 3 rfl (by decide) ?_
  refine tg_istore_n C dX4_costOfSpelled_3 4 rfl rfl [(3, .int (nI 0)), (2, .int (nI 0)), (0, .ref (ad 0)), (1, .int (nI t))] (by decide) rfl ?_
  have L4 : ∀ (n4 : Nat) (k a9 : Nat), (k ≤ rc n ∧ a9 = sm (fun k => costN (ct t (rn n w k)) (mt t)) k ∧ a9 ≤ 10 * k) → rc n - k < n4 → TT p l e (Rm 2 42) s m args below meth c D cy ad A 4 0 0 Q σ 4 [(0, .ref (ad 0)), (1, .int (nI t)), (2, .int (nI a9)), (3, .int (nI k))] [] := by
    intro n4
    induction n4 with
    | zero => intro k a9 _ hn4; exact absurd hn4 (Nat.not_lt_zero _)
    | succ n4 ih4 =>
      intro k a9 ⟨hk, ha, hb⟩ hn4
      refine tg_iload_n C dX4_costOfSpelled_4 5 rfl rfl 3 rfl ?_
      refine tg_aload_n C dX4_costOfSpelled_5 6 rfl rfl 0 rfl ?_
      refine tg_get (T := TX4) (N := 8) (Cn := RX4) C 0 (by decide) (e_0 ad cy _) rfl w1 0 (by decide) w0 rfl rfl dX4_costOfSpelled_6 9 rfl ?_
      refine tg_callVi C 1 (by decide) (e_1 ad cy _) rfl (c_X2_runCount l D cy ad hDis σ hS) (cwV 0 C.2.2.2.2.1 gX4_costOfSpelled_X2_runCount rfl rfl rfl (by decide +kernel) ⟨Nat.le_of_ble_eq_true rfl, Nat.le_of_ble_eq_true rfl⟩) rfl rfl (Nat.le_of_ble_eq_true rfl) ⟨Nat.le_of_ble_eq_true rfl, Nat.le_of_ble_eq_true rfl⟩ dX4_costOfSpelled_9 12 rfl (fun r9 τ9 h9 => ?_)
      obtain ⟨h9, h9s⟩ := h9
      subst h9s
      subst h9
      refine tg_icmp_ge C 41 dX4_costOfSpelled_12 (by decide) 15 rfl (fun c12 => ?_) (fun c12 => ?_)
      · -- to 41
        replace c12 : (rc n) ≤ k := (nI_leI (by omega) (by omega)).mp c12
        refine tg_iload_n C dX4_costOfSpelled_41 42 rfl rfl 2 rfl ?_
        exact hret dX4_costOfSpelled_42 ⟨by rw [ha, show k = rc n by omega]; rfl, rfl⟩
      · -- on
        replace c12 : ¬ (rc n) ≤ k := fun q => c12 ((nI_leI (by omega) (by omega)).mpr q)
        refine tg_iload_n C dX4_costOfSpelled_15 16 rfl rfl 2 rfl ?_
        refine tg_aload_n C dX4_costOfSpelled_16 17 rfl rfl 0 rfl ?_
        refine tg_get (T := TX4) (N := 8) (Cn := RX4) C 0 (by decide) (e_0 ad cy _) rfl w1 2 (by decide) w2 rfl rfl dX4_costOfSpelled_17 20 rfl ?_
        refine tg_iload_n C dX4_costOfSpelled_20 21 rfl rfl 1 rfl ?_
        refine tg_aald C 5 1 (by decide) (e_5 ad cy _) rfl rfl t rfl (by omega) (by decide) dX4_costOfSpelled_21 22 rfl ?_
        refine tg_aload_n C dX4_costOfSpelled_22 23 rfl rfl 0 rfl ?_
        refine tg_get (T := TX4) (N := 8) (Cn := RX4) C 0 (by decide) (e_0 ad cy _) rfl w1 0 (by decide) w0 rfl rfl dX4_costOfSpelled_23 26 rfl ?_
        refine tg_iload_n C dX4_costOfSpelled_26 27 rfl rfl 3 rfl ?_
        refine tg_callVi C 1 (by decide) (e_1 ad cy _) rfl (c_X2_runNumber l D cy ad hDis σ hS (k := k) (by omega)) (cwV 1 C.2.2.2.2.1 gX4_costOfSpelled_X2_runNumber rfl rfl rfl (by decide +kernel) ⟨Nat.le_of_ble_eq_true rfl, Nat.le_of_ble_eq_true rfl⟩) rfl rfl (Nat.le_of_ble_eq_true rfl) ⟨Nat.le_of_ble_eq_true rfl, Nat.le_of_ble_eq_true rfl⟩ dX4_costOfSpelled_27 30 rfl (fun r27 τ27 h27 => ?_)
        obtain ⟨h27, h27s⟩ := h27
        subst h27s
        subst h27
        have hcc := costN_le (ct t (rn n w k)) (mt t)
        refine tg_callVi C (6 + t) (isTy.at (show t < 5 by omega)).lt ((isTy.at (show t < 5 by omega)).e ad cy _) rfl (c_X3_costOf l D cy ad hDis σ (isTy.at ht) (hT t ht) (r9 := rn n w k) (hrn k)) (cwV 1 C.2.2.2.2.1 gX4_costOfSpelled_X3_costOf rfl rfl rfl (by decide +kernel) ⟨Nat.le_of_ble_eq_true rfl, Nat.le_of_ble_eq_true rfl⟩) rfl rfl (Nat.le_of_ble_eq_true rfl) ⟨Nat.le_of_ble_eq_true rfl, Nat.le_of_ble_eq_true rfl⟩ dX4_costOfSpelled_30 33 rfl (fun r30 τ30 h30 => ?_)
        obtain ⟨h30, h30s⟩ := h30
        subst h30s
        subst h30
        refine tg_iadd C (nI (a9 + (costN (ct t (rn n w k)) (mt t)))) dX4_costOfSpelled_33 34 rfl (nI_add a9 (costN (ct t (rn n w k)) (mt t))) ?_
        refine tg_istore_n C dX4_costOfSpelled_34 35 rfl rfl [(2, .int (nI (a9 + (costN (ct t (rn n w k)) (mt t))))), (0, .ref (ad 0)), (1, .int (nI t)), (3, .int (nI k))] (by decide) rfl ?_
        refine tg_iinc C (nI (k + 1)) dX4_costOfSpelled_35 38 rfl 3 rfl (nI_add k 1) [(3, .int (nI (k + 1))), (2, .int (nI (a9 + (costN (ct t (rn n w k)) (mt t))))), (0, .ref (ad 0)), (1, .int (nI t))] (by decide) rfl ?_
        refine tg_goto C 4 dX4_costOfSpelled_38 (by decide) ?_
        refine tg_sub [2, 3, 1, 0] rfl ?_
        exact ih4 (k + 1) (a9 + costN (ct t (rn n w k)) (mt t)) ⟨by omega, by rw [ha]; rfl, by omega⟩ (by omega)
  refine tg_sub [2, 3, 1, 0] rfl ?_
  exact L4 _ 0 0 ⟨by omega, rfl, by omega⟩ (Nat.lt_succ_self _)
set_option maxHeartbeats 4000000 in
set_option maxRecDepth 100000 in
theorem c_X4_isSure (l : Launch) (D : va_G) (cy : Nat → ClassId) (ad : Nat → Nat) (hDis : Dis ad) (σ : sS) {tc mg pr : Nat} (hX : Xs σ tc mg pr) {n : Nat} {w : Nat → Nat} (hS : Sp σ n w) {ct : Nat → Nat → Nat} {mt : Nat → Nat} (hT : Ta σ ct mt) {best least : Nat} (hbest : best ≤ 5) (hleast : least ≤ 100000) : Mi l yX4_isSure wsX4_isSure 3 65 D cy ad [.ref (ad 0), .int (nI best), .int (nI least)] σ (fun r τ => r = bI (sureb (fun u => ctxN n w (ct u) (mt u)) best (least + mg) tc) ∧ σ = τ) := by
  have w0 : Cond.fieldLink RX4 41 "Tonguetell" "tongueCount" "I" ∈ wsX4_isSure := by decide +kernel
  have w1 : ∀ w ∈ wsX40, w ∈ wsX4_isSure := by decide +kernel
  have w2 : Cond.fieldLink RX4 45 "Tonguetell" "margin" "I" ∈ wsX4_isSure := by decide +kernel
  obtain ⟨hx1, hx2, hx3, hx4, hx5, hx6⟩ := id hX
  have hn16 := hS.2.1
  have hrc := rc_le hn16
  have hrn := rn_lt (fun k h => (hS.2.2 k h).2)
  refine Mz.of (cc := cX4_isSure) (nL := 4) (own := RX4) hDis (by decide) rfl [(0, .ref (ad 0)), (1, .int (nI best)), (2, .int (nI least))] rfl (Nat.le_of_ble_eq_true rfl) rfl ?_
  intro p e s m args below meth c A Q C hret
  refine tg_iconst C (nI 0) dX4_isSure_0 1 rfl (by decide) ?_
  refine tg_istore_n C dX4_isSure_1 2 rfl rfl [(3, .int (nI 0)), (0, .ref (ad 0)), (1, .int (nI best)), (2, .int (nI least))] (by decide) rfl ?_
  have L2 : ∀ (n2 : Nat) (t : Nat), (t ≤ tc ∧ sureb (fun u => ctxN n w (ct u) (mt u)) best (least + mg) t = true) → tc - t < n2 → TT p l e (Rm 3 65) s m args below meth c D cy ad A 4 0 0 Q σ 2 [(0, .ref (ad 0)), (1, .int (nI best)), (2, .int (nI least)), (3, .int (nI t))] [] := by
    intro n2
    induction n2 with
    | zero => intro t _ hn2; exact absurd hn2 (Nat.not_lt_zero _)
    | succ n2 ih2 =>
      intro t ⟨ht, hs⟩ hn2
      refine tg_iload_n C dX4_isSure_2 3 rfl rfl 3 rfl ?_
      refine tg_aload_n C dX4_isSure_3 4 rfl rfl 0 rfl ?_
      refine tg_get (T := TX4) (N := 8) (Cn := RX4) C 0 (by decide) (e_0 ad cy _) rfl w1 5 (by decide) w0 rfl rfl dX4_isSure_4 7 rfl ?_
      refine tg_top (y := nI tc) (hX.1) ?_
      refine tg_icmp_ge C 37 dX4_isSure_7 (by decide) 10 rfl (fun c7 => ?_) (fun c7 => ?_)
      · -- to 37
        replace c7 : tc ≤ t := (nI_leI (by omega) (by omega)).mp c7
        refine tg_iconst C (nI 1) dX4_isSure_37 38 rfl (by decide) ?_
        exact hret dX4_isSure_38 rfl ⟨by rw [← show t = tc by omega, hs]; rfl, rfl⟩
      · -- on
        replace c7 : ¬ tc ≤ t := fun q => c7 ((nI_leI (by omega) (by omega)).mpr q)
        refine tg_iload_n C dX4_isSure_10 11 rfl rfl 3 rfl ?_
        refine tg_iload_n C dX4_isSure_11 12 rfl rfl 1 rfl ?_
        refine tg_icmp_eq C 31 dX4_isSure_12 (by decide) 15 rfl (fun c12 => ?_) (fun c12 => ?_)
        · -- to 31
          replace c12 : t = best := (nI_eq (by omega) (by omega)).mp c12
          refine tg_iinc C (nI (t + 1)) dX4_isSure_31 34 rfl 3 rfl (nI_add t 1) [(3, .int (nI (t + 1))), (0, .ref (ad 0)), (1, .int (nI best)), (2, .int (nI least))] (by decide) rfl ?_
          refine tg_goto C 2 dX4_isSure_34 (by decide) ?_
          refine tg_sub [1, 2, 3, 0] rfl ?_
          exact ih2 (t + 1) ⟨by omega, sureb_step hs (by first | exact Or.inl c12 | exact Or.inr (by show least + mg ≤ ctxN n w (ct t) (mt t); omega))⟩ (by omega)
        · -- on
          replace c12 : ¬ t = best := fun q => c12 ((nI_eq (by omega) (by omega)).mpr q)
          refine tg_aload_n C dX4_isSure_15 16 rfl rfl 0 rfl ?_
          refine tg_iload_n C dX4_isSure_16 17 rfl rfl 3 rfl ?_
          have hcl := ctxN_le hn16 w (ct t) (mt t)
          refine tg_callVi C 0 (by decide) (e_0 ad cy _) rfl (c_X4_costOfSpelled l D cy ad hDis σ hS hT (t := t) (by omega)) (cwV 1 C.2.2.2.2.1 gX4_isSure_X4_costOfSpelled rfl rfl rfl (by decide +kernel) ⟨Nat.le_of_ble_eq_true rfl, Nat.le_of_ble_eq_true rfl⟩) rfl rfl (Nat.le_of_ble_eq_true rfl) ⟨Nat.le_of_ble_eq_true rfl, Nat.le_of_ble_eq_true rfl⟩ dX4_isSure_17 20 rfl (fun r17 τ17 h17 => ?_)
          obtain ⟨h17, h17s⟩ := h17
          subst h17s
          subst h17
          refine tg_iload_n C dX4_isSure_20 21 rfl rfl 2 rfl ?_
          refine tg_aload_n C dX4_isSure_21 22 rfl rfl 0 rfl ?_
          refine tg_get (T := TX4) (N := 8) (Cn := RX4) C 0 (by decide) (e_0 ad cy _) rfl w1 6 (by decide) w2 rfl rfl dX4_isSure_22 25 rfl ?_
          refine tg_top (y := nI mg) (hX.2.1) ?_
          refine tg_iadd C (nI (least + mg)) dX4_isSure_25 26 rfl (nI_add least mg) ?_
          refine tg_icmp_ge C 31 dX4_isSure_26 (by decide) 29 rfl (fun c26 => ?_) (fun c26 => ?_)
          · -- to 31
            replace c26 : (least + mg) ≤ (ctxN n w (ct t) (mt t)) := (nI_leI (by omega) (by omega)).mp c26
            refine tg_iinc C (nI (t + 1)) dX4_isSure_31 34 rfl 3 rfl (nI_add t 1) [(3, .int (nI (t + 1))), (0, .ref (ad 0)), (1, .int (nI best)), (2, .int (nI least))] (by decide) rfl ?_
            refine tg_goto C 2 dX4_isSure_34 (by decide) ?_
            refine tg_sub [1, 2, 3, 0] rfl ?_
            exact ih2 (t + 1) ⟨by omega, sureb_step hs (by first | exact Or.inl c12 | exact Or.inr (by show least + mg ≤ ctxN n w (ct t) (mt t); omega))⟩ (by omega)
          · -- on
            replace c26 : ¬ (least + mg) ≤ (ctxN n w (ct t) (mt t)) := fun q => c26 ((nI_leI (by omega) (by omega)).mpr q)
            refine tg_iconst C (nI 0) dX4_isSure_29 30 rfl (by decide) ?_
            exact hret dX4_isSure_30 rfl ⟨by rw [sureb_no (k := t) c12 (by show ¬ least + mg ≤ ctxN n w (ct t) (mt t); omega) tc (by omega)]; rfl, rfl⟩
  refine tg_sub [1, 2, 3, 0] rfl ?_
  exact L2 _ 0 ⟨by omega, rfl⟩ (Nat.lt_succ_self _)
set_option maxHeartbeats 4000000 in
set_option maxRecDepth 100000 in
theorem c_X4_tell (l : Launch) (D : va_G) (cy : Nat → ClassId) (ad : Nat → Nat) (hDis : Dis ad) (σ : sS) {tc mg pr : Nat} (hX : Xs σ tc mg pr) {n : Nat} {w : Nat → Nat} (hS : Sp σ n w) {ct : Nat → Nat → Nat} {mt : Nat → Nat} (hT : Ta σ ct mt) : Mi l yX4_tell wsX4_tell 4 88 D cy ad [.ref (ad 0)] σ (fun r τ => r = tlI n tc mg (fun u => ctxN n w (ct u) (mt u)) ∧ σ = τ) := by
  have w0 : Cond.fieldLink RX4 10 "Tonguetell" "spelled" "LTonguetell$Spelling;" ∈ wsX4_tell := by decide +kernel
  have w1 : ∀ w ∈ wsX40, w ∈ wsX4_tell := by decide +kernel
  have w2 : Cond.fieldLink RX4 62 "Tonguetell$Spelling" "length" "I" ∈ wsX4_tell := by decide +kernel
  have w3 : ∀ w ∈ wsX20, w ∈ wsX4_tell := by decide +kernel
  have w4 : Cond.fieldLink RX4 41 "Tonguetell" "tongueCount" "I" ∈ wsX4_tell := by decide +kernel
  obtain ⟨hx1, hx2, hx3, hx4, hx5, hx6⟩ := id hX
  have hn16 := hS.2.1
  have hrc := rc_le hn16
  have hrn := rn_lt (fun k h => (hS.2.2 k h).2)
  refine Mi.of (cc := cX4_tell) (nL := 5) (own := RX4) hDis (by decide) rfl [(0, .ref (ad 0))] rfl (Nat.le_of_ble_eq_true rfl) rfl ?_
  intro p e s m args below meth c A Q C hret
  refine tg_aload_n C dX4_tell_0 1 rfl rfl 0 rfl ?_
  refine tg_get (T := TX4) (N := 8) (Cn := RX4) C 0 (by decide) (e_0 ad cy _) rfl w1 0 (by decide) w0 rfl rfl dX4_tell_1 4 rfl ?_
  refine tg_get (T := TX2) (N := 2) (Cn := RX2) C 1 (by decide) (e_1 ad cy _) rfl w3 1 (by decide) w2 rfl rfl dX4_tell_4 7 rfl ?_
  refine tg_top (y := nI n) (hS.1) ?_
  refine tg_iconst C (nI 4) dX4_tell_7 8 rfl (by decide) ?_
  refine tg_icmp_lt C 18 dX4_tell_8 (by decide) 11 rfl (fun c8 => ?_) (fun c8 => ?_)
  · -- to 18
    replace c8 : n < 4 := (nI_ltI (by omega) (by omega)).mp c8
    refine tg_iconst C (-1) dX4_tell_18 19 rfl (by decide) ?_
    exact hret dX4_tell_19 ⟨(if_pos (by omega)).symm, rfl⟩
  · -- on
    replace c8 : ¬ n < 4 := fun q => c8 ((nI_ltI (by omega) (by omega)).mpr q)
    refine tg_aload_n C dX4_tell_11 12 rfl rfl 0 rfl ?_
    refine tg_get (T := TX4) (N := 8) (Cn := RX4) C 0 (by decide) (e_0 ad cy _) rfl w1 5 (by decide) w4 rfl rfl dX4_tell_12 15 rfl ?_
    refine tg_top (y := nI tc) (hX.1) ?_
    refine tg_if_ne C 20 dX4_tell_15 (by decide) 18 rfl (fun c15 => ?_) (fun c15 => ?_)
    · -- to 20
      replace c15 : ¬ tc = 0 := fun q => c15 ((z_eq (by omega)).mpr q)
      refine tg_iconst C (nI 0) dX4_tell_20 21 rfl (by decide) ?_
      refine tg_istore_n C dX4_tell_21 22 rfl rfl [(1, .int (nI 0)), (0, .ref (ad 0))] (by decide) rfl ?_
      refine tg_aload_n C dX4_tell_22 23 rfl rfl 1 rfl ?_
      refine tg_iload_n C dX4_tell_23 24 rfl rfl 0 rfl ?_
      refine tg_callVi C 0 (by decide) (e_0 ad cy _) rfl (c_X4_costOfSpelled l D cy ad hDis σ hS hT (t := 0) (by omega)) (cwV 1 C.2.2.2.2.1 gX4_tell_X4_costOfSpelled rfl rfl rfl (by decide +kernel) ⟨Nat.le_of_ble_eq_true rfl, Nat.le_of_ble_eq_true rfl⟩) rfl rfl (Nat.le_of_ble_eq_true rfl) ⟨Nat.le_of_ble_eq_true rfl, Nat.le_of_ble_eq_true rfl⟩ dX4_tell_24 27 rfl (fun r24 τ24 h24 => ?_)
      obtain ⟨h24, h24s⟩ := h24
      subst h24s
      subst h24
      refine tg_istore_n C dX4_tell_27 28 rfl rfl [(2, .int (nI (ctxN n w (ct 0) (mt 0)))), (1, .int (nI 0)), (0, .ref (ad 0))] (by decide) rfl ?_
      refine tg_iconst C (nI 1) dX4_tell_28 29 rfl (by decide) ?_
      refine tg_istore_n C dX4_tell_29 30 rfl rfl [(3, .int (nI 1)), (2, .int (nI (ctxN n w (ct 0) (mt 0)))), (1, .int (nI 0)), (0, .ref (ad 0))] (by decide) rfl ?_
      have L30 : ∀ (n30 : Nat) (t b9 : Nat), (t ≤ tc ∧ b9 = amin (fun u => ctxN n w (ct u) (mt u)) t ∧ b9 < t) → tc - t < n30 → TT p l e (Rm 4 88) s m args below meth c D cy ad A 5 0 0 Q σ 30 [(0, .ref (ad 0)), (1, .int (nI b9)), (2, .int (nI (ctxN n w (ct b9) (mt b9)))), (3, .int (nI t))] [] := by
        intro n30
        induction n30 with
        | zero => intro t b9 _ hn30; exact absurd hn30 (Nat.not_lt_zero _)
        | succ n30 ih30 =>
          intro t b9 ⟨ht, hb, hl⟩ hn30
          refine tg_iload_n C dX4_tell_30 31 rfl rfl 3 rfl ?_
          refine tg_aload_n C dX4_tell_31 32 rfl rfl 0 rfl ?_
          refine tg_get (T := TX4) (N := 8) (Cn := RX4) C 0 (by decide) (e_0 ad cy _) rfl w1 5 (by decide) w4 rfl rfl dX4_tell_32 35 rfl ?_
          refine tg_top (y := nI tc) (hX.1) ?_
          refine tg_icmp_ge C 62 dX4_tell_35 (by decide) 38 rfl (fun c35 => ?_) (fun c35 => ?_)
          · -- to 62
            replace c35 : tc ≤ t := (nI_leI (by omega) (by omega)).mp c35
            have hcl2 := ctxN_le hn16 w (ct b9) (mt b9)
            refine tg_aload_n C dX4_tell_62 63 rfl rfl 0 rfl ?_
            refine tg_iload_n C dX4_tell_63 64 rfl rfl 1 rfl ?_
            refine tg_iload_n C dX4_tell_64 65 rfl rfl 2 rfl ?_
            refine tg_callVi C 0 (by decide) (e_0 ad cy _) rfl (c_X4_isSure l D cy ad hDis σ hX hS hT (best := b9) (least := ctxN n w (ct b9) (mt b9)) (by omega) (by omega)) (cwV 2 C.2.2.2.2.1 gX4_tell_X4_isSure rfl rfl rfl (by decide +kernel) ⟨Nat.le_of_ble_eq_true rfl, Nat.le_of_ble_eq_true rfl⟩) rfl rfl (Nat.le_of_ble_eq_true rfl) ⟨Nat.le_of_ble_eq_true rfl, Nat.le_of_ble_eq_true rfl⟩ dX4_tell_65 68 rfl (fun r65 τ65 h65 => ?_)
            obtain ⟨h65, h65s⟩ := h65
            subst h65s
            subst h65
            refine tg_if_eq C 75 dX4_tell_68 (by decide) 71 rfl (fun c68 => ?_) (fun c68 => ?_)
            · -- to 75
              replace c68 := bI_0.mp c68
              refine tg_iconst C (-1) dX4_tell_75 76 rfl (by decide) ?_
              exact hret dX4_tell_76 ⟨by have he : b9 = amin (fun u => ctxN n w (ct u) (mt u)) tc := (by rw [hb, show t = tc by omega]); unfold tlI; rw [if_neg (by omega), ← he]; first | exact (if_pos c68).symm | exact (if_neg (by rw [c68]; decide)).symm, rfl⟩
            · -- on
              replace c68 := bI_n.mp c68
              refine tg_iload_n C dX4_tell_71 72 rfl rfl 1 rfl ?_
              refine tg_goto C 76 dX4_tell_72 (by decide) ?_
              exact hret dX4_tell_76 ⟨by have he : b9 = amin (fun u => ctxN n w (ct u) (mt u)) tc := (by rw [hb, show t = tc by omega]); unfold tlI; rw [if_neg (by omega), ← he]; first | exact (if_pos c68).symm | exact (if_neg (by rw [c68]; decide)).symm, rfl⟩
          · -- on
            replace c35 : ¬ tc ≤ t := fun q => c35 ((nI_leI (by omega) (by omega)).mpr q)
            have hcl := ctxN_le hn16 w (ct t) (mt t)
            have hcl2 := ctxN_le hn16 w (ct b9) (mt b9)
            refine tg_aload_n C dX4_tell_38 39 rfl rfl 0 rfl ?_
            refine tg_iload_n C dX4_tell_39 40 rfl rfl 3 rfl ?_
            refine tg_callVi C 0 (by decide) (e_0 ad cy _) rfl (c_X4_costOfSpelled l D cy ad hDis σ hS hT (t := t) (by omega)) (cwV 1 C.2.2.2.2.1 gX4_tell_X4_costOfSpelled rfl rfl rfl (by decide +kernel) ⟨Nat.le_of_ble_eq_true rfl, Nat.le_of_ble_eq_true rfl⟩) rfl rfl (Nat.le_of_ble_eq_true rfl) ⟨Nat.le_of_ble_eq_true rfl, Nat.le_of_ble_eq_true rfl⟩ dX4_tell_40 43 rfl (fun r40 τ40 h40 => ?_)
            obtain ⟨h40, h40s⟩ := h40
            subst h40s
            subst h40
            refine tg_istore C dX4_tell_43 45 rfl [(4, .int (nI (ctxN n w (ct t) (mt t)))), (0, .ref (ad 0)), (1, .int (nI b9)), (2, .int (nI (ctxN n w (ct b9) (mt b9)))), (3, .int (nI t))] (by decide) rfl ?_
            refine tg_iload C dX4_tell_45 47 rfl 0 rfl ?_
            refine tg_iload_n C dX4_tell_47 48 rfl rfl 3 rfl ?_
            refine tg_icmp_ge C 56 dX4_tell_48 (by decide) 51 rfl (fun c48 => ?_) (fun c48 => ?_)
            · -- to 56
              replace c48 : (ctxN n w (ct b9) (mt b9)) ≤ (ctxN n w (ct t) (mt t)) := (nI_leI (by omega) (by omega)).mp c48
              refine tg_iinc C (nI (t + 1)) dX4_tell_56 59 rfl 4 rfl (nI_add t 1) [(3, .int (nI (t + 1))), (4, .int (nI (ctxN n w (ct t) (mt t)))), (0, .ref (ad 0)), (1, .int (nI b9)), (2, .int (nI (ctxN n w (ct b9) (mt b9))))] (by decide) rfl ?_
              refine tg_goto C 30 dX4_tell_59 (by decide) ?_
              refine tg_sub [2, 3, 4, 0] rfl ?_
              exact ih30 (t + 1) (b9) ⟨by omega, by rw [amin, ← hb]; exact (if_neg (by omega)).symm, by omega⟩ (by omega)
            · -- on
              replace c48 : ¬ (ctxN n w (ct b9) (mt b9)) ≤ (ctxN n w (ct t) (mt t)) := fun q => c48 ((nI_leI (by omega) (by omega)).mpr q)
              refine tg_iload_n C dX4_tell_51 52 rfl rfl 4 rfl ?_
              refine tg_istore_n C dX4_tell_52 53 rfl rfl [(1, .int (nI t)), (4, .int (nI (ctxN n w (ct t) (mt t)))), (0, .ref (ad 0)), (2, .int (nI (ctxN n w (ct b9) (mt b9)))), (3, .int (nI t))] (by decide) rfl ?_
              refine tg_iload C dX4_tell_53 55 rfl 1 rfl ?_
              refine tg_istore_n C dX4_tell_55 56 rfl rfl [(2, .int (nI (ctxN n w (ct t) (mt t)))), (1, .int (nI t)), (4, .int (nI (ctxN n w (ct t) (mt t)))), (0, .ref (ad 0)), (3, .int (nI t))] (by decide) rfl ?_
              refine tg_iinc C (nI (t + 1)) dX4_tell_56 59 rfl 4 rfl (nI_add t 1) [(3, .int (nI (t + 1))), (2, .int (nI (ctxN n w (ct t) (mt t)))), (1, .int (nI t)), (4, .int (nI (ctxN n w (ct t) (mt t)))), (0, .ref (ad 0))] (by decide) rfl ?_
              refine tg_goto C 30 dX4_tell_59 (by decide) ?_
              refine tg_sub [4, 2, 1, 0] rfl ?_
              exact ih30 (t + 1) (t) ⟨by omega, by rw [amin, ← hb]; exact (if_pos (by omega)).symm, by omega⟩ (by omega)
      refine tg_sub [3, 2, 1, 0] rfl ?_
      exact L30 _ 1 0 ⟨by omega, by simp [amin], by omega⟩ (Nat.lt_succ_self _)
    · -- on
      replace c15 : tc = 0 := (z_eq (by omega)).mp c15
      refine tg_iconst C (-1) dX4_tell_18 19 rfl (by decide) ?_
      exact hret dX4_tell_19 ⟨(if_pos (by omega)).symm, rfl⟩
set_option maxHeartbeats 4000000 in
set_option maxRecDepth 100000 in
theorem c_X4_tallySpelled (l : Launch) (D : va_G) (cy : Nat → ClassId) (ad : Nat → Nat) (hDis : Dis ad) (σ : sS) {n : Nat} {w : Nat → Nat} (hS : Sp σ n w) : Mv l yX4_tallySpelled wsX4_tallySpelled 2 42 D cy ad [.ref (ad 0)] σ (fun τ => Tl τ 3 4 (ownN n w (rc n)) (rc n) ∧ ∀ j, j ≠ 3 → j ≠ 4 → τ j = σ j) := by
  have w0 : Cond.fieldLink RX4 19 "Tonguetell" "spelledTally" "LTonguetell$Tally;" ∈ wsX4_tallySpelled := by decide +kernel
  have w1 : ∀ w ∈ wsX40, w ∈ wsX4_tallySpelled := by decide +kernel
  have w2 : Cond.fieldLink RX4 10 "Tonguetell" "spelled" "LTonguetell$Spelling;" ∈ wsX4_tallySpelled := by decide +kernel
  have hn16 := hS.2.1
  have hrc := rc_le hn16
  have hrn := rn_lt (fun k h => (hS.2.2 k h).2)
  refine Mv.of (cc := cX4_tallySpelled) (nL := 2) (own := RX4) hDis (by decide) rfl [(0, .ref (ad 0))] rfl (Nat.le_of_ble_eq_true rfl) rfl ?_
  intro p e s m args below meth c A Q C hret
  refine tg_aload_n C dX4_tallySpelled_0 1 rfl rfl 0 rfl ?_
  refine tg_get (T := TX4) (N := 8) (Cn := RX4) C 0 (by decide) (e_0 ad cy _) rfl w1 1 (by decide) w0 rfl rfl dX4_tallySpelled_1 4 rfl ?_
  refine tg_callVv C 3 isTy.own.lt (isTy.own.e ad cy _) rfl (c_X3_clear l D cy ad hDis σ isTy.own) (cwV 0 C.2.2.2.2.1 gX4_tallySpelled_X3_clear rfl rfl rfl (by decide +kernel) ⟨Nat.le_of_ble_eq_true rfl, Nat.le_of_ble_eq_true rfl⟩) rfl rfl (Nat.le_of_ble_eq_true rfl) ⟨Nat.le_of_ble_eq_true rfl, Nat.le_of_ble_eq_true rfl⟩ dX4_tallySpelled_4 7 rfl (fun τ4 h4 => ?_)
  refine tg_iconst C (nI 0) dX4_tallySpelled_7 8 rfl (by decide) ?_
  refine tg_istore_n C dX4_tallySpelled_8 9 rfl rfl [(1, .int (nI 0)), (0, .ref (ad 0))] (by decide) rfl ?_
  have L9 : ∀ (n9 : Nat) (i : Nat) (σ1 : sS), (i ≤ rc n ∧ Tl σ1 3 4 (ownN n w i) i ∧ ∀ j, j ≠ 3 → j ≠ 4 → σ1 j = σ j) → rc n - i < n9 → TT p l e (Rm 2 42) s m args below meth c D cy ad A 2 0 0 Q σ1 9 [(0, .ref (ad 0)), (1, .int (nI i))] [] := by
    intro n9
    induction n9 with
    | zero => intro i σ1 _ hn9; exact absurd hn9 (Nat.not_lt_zero _)
    | succ n9 ih9 =>
      intro i σ1 ⟨hi, hL, hf⟩ hn9
      have hS1 : Sp σ1 n w := hS.fr (hf 1 (by decide) (by decide)) (hf 2 (by decide) (by decide))
      refine tg_iload_n C dX4_tallySpelled_9 10 rfl rfl 1 rfl ?_
      refine tg_aload_n C dX4_tallySpelled_10 11 rfl rfl 0 rfl ?_
      refine tg_get (T := TX4) (N := 8) (Cn := RX4) C 0 (by decide) (e_0 ad cy _) rfl w1 0 (by decide) w2 rfl rfl dX4_tallySpelled_11 14 rfl ?_
      refine tg_callVi C 1 (by decide) (e_1 ad cy _) rfl (c_X2_runCount l D cy ad hDis σ1 hS1) (cwV 0 C.2.2.2.2.1 gX4_tallySpelled_X2_runCount rfl rfl rfl (by decide +kernel) ⟨Nat.le_of_ble_eq_true rfl, Nat.le_of_ble_eq_true rfl⟩) rfl rfl (Nat.le_of_ble_eq_true rfl) ⟨Nat.le_of_ble_eq_true rfl, Nat.le_of_ble_eq_true rfl⟩ dX4_tallySpelled_14 17 rfl (fun r14 τ14 h14 => ?_)
      obtain ⟨h14, h14s⟩ := h14
      subst h14s
      subst h14
      refine tg_icmp_ge C 41 dX4_tallySpelled_17 (by decide) 20 rfl (fun c17 => ?_) (fun c17 => ?_)
      · -- to 41
        replace c17 : (rc n) ≤ i := (nI_leI (by omega) (by omega)).mp c17
        exact hret dX4_tallySpelled_41 ⟨by rw [show rc n = i by omega]; exact hL, hf⟩
      · -- on
        replace c17 : ¬ (rc n) ≤ i := fun q => c17 ((nI_leI (by omega) (by omega)).mpr q)
        refine tg_aload_n C dX4_tallySpelled_20 21 rfl rfl 0 rfl ?_
        refine tg_get (T := TX4) (N := 8) (Cn := RX4) C 0 (by decide) (e_0 ad cy _) rfl w1 1 (by decide) w0 rfl rfl dX4_tallySpelled_21 24 rfl ?_
        refine tg_aload_n C dX4_tallySpelled_24 25 rfl rfl 0 rfl ?_
        refine tg_get (T := TX4) (N := 8) (Cn := RX4) C 0 (by decide) (e_0 ad cy _) rfl w1 0 (by decide) w2 rfl rfl dX4_tallySpelled_25 28 rfl ?_
        refine tg_iload_n C dX4_tallySpelled_28 29 rfl rfl 1 rfl ?_
        refine tg_callVi C 1 (by decide) (e_1 ad cy _) rfl (c_X2_runNumber l D cy ad hDis σ1 hS1 (k := i) (by omega)) (cwV 1 C.2.2.2.2.1 gX4_tallySpelled_X2_runNumber rfl rfl rfl (by decide +kernel) ⟨Nat.le_of_ble_eq_true rfl, Nat.le_of_ble_eq_true rfl⟩) rfl rfl (Nat.le_of_ble_eq_true rfl) ⟨Nat.le_of_ble_eq_true rfl, Nat.le_of_ble_eq_true rfl⟩ dX4_tallySpelled_29 32 rfl (fun r29 τ29 h29 => ?_)
        obtain ⟨h29, h29s⟩ := h29
        subst h29s
        subst h29
        refine tg_callVv C 3 isTy.own.lt (isTy.own.e ad cy _) rfl (c_X3_add l D cy ad hDis σ1 isTy.own hL (r9 := rn n w i) (hrn i)) (cwV 1 C.2.2.2.2.1 gX4_tallySpelled_X3_add rfl rfl rfl (by decide +kernel) ⟨Nat.le_of_ble_eq_true rfl, Nat.le_of_ble_eq_true rfl⟩) rfl rfl (Nat.le_of_ble_eq_true rfl) ⟨Nat.le_of_ble_eq_true rfl, Nat.le_of_ble_eq_true rfl⟩ dX4_tallySpelled_32 35 rfl (fun τ32 h32 => ?_)
        refine tg_iinc C (nI (i + 1)) dX4_tallySpelled_35 38 rfl 1 rfl (nI_add i 1) [(1, .int (nI (i + 1))), (0, .ref (ad 0))] (by decide) rfl ?_
        refine tg_goto C 9 dX4_tallySpelled_38 (by decide) ?_
        refine tg_sub [1, 0] rfl ?_
        subst h32
        refine ih9 (i + 1) _ ⟨by omega, ⟨su_eq _ _ _ _, by omega, fun r hr => ⟨?_, Nat.le_trans (ownN_le n w (i + 1) r) (by omega)⟩⟩, fun j h1 h2 => by rw [su_ni _ _ _ h1, su_ni _ _ _ h2]; exact hf j h1 h2⟩ (by omega)
        rw [su_ni _ _ _ (by decide), su_ap]
        show _ = nI (ownN n w i r + (if rn n w i = r then 1 else 0))
        split
        · rename_i hh
          rw [if_pos hh.2.symm, hh.2]
        · rename_i hh
          rw [if_neg (fun q => hh ⟨rfl, q.symm⟩)]
          exact (hL.2.2 r hr).1
  refine tg_sub [1, 0] rfl ?_
  exact L9 _ 0 τ4 ⟨by omega, ⟨h4.2.1, by omega, fun r hr => ⟨h4.1 r hr, by simp [ownN, sm]⟩⟩, fun j h1 h2 => h4.2.2 j h1 h2⟩ (Nat.lt_succ_self _)
set_option maxHeartbeats 4000000 in
set_option maxRecDepth 100000 in
theorem c_X4_distanceOfSpelled (l : Launch) (D : va_G) (cy : Nat → ClassId) (ad : Nat → Nat) (hDis : Dis ad) (σ : sS) {ct : Nat → Nat → Nat} {mt : Nat → Nat} (hT : Ta σ ct mt) {c0 : Nat → Nat} {m0 : Nat} (hO : Tl σ 3 4 c0 m0) {t : Nat} (ht : t < 5) : Mi l yX4_distanceOfSpelled wsX4_distanceOfSpelled 1 24 D cy ad [.ref (ad 0), .int (nI t)] σ (fun r τ => r = nI (dstN c0 (ct t)) ∧ σ = τ) := by
  have w0 : Cond.fieldLink RX4 19 "Tonguetell" "spelledTally" "LTonguetell$Tally;" ∈ wsX4_distanceOfSpelled := by decide +kernel
  have w1 : ∀ w ∈ wsX40, w ∈ wsX4_distanceOfSpelled := by decide +kernel
  have w2 : Cond.fieldLink RX4 23 "Tonguetell" "tallies" "[LTonguetell$Tally;" ∈ wsX4_distanceOfSpelled := by decide +kernel
  have w3 : Cond.methodLink RX4 217 Lib.Math.abs.name ∈ wsX4_distanceOfSpelled := by decide +kernel
  have w4 : Cond.static Lib.Math.abs.name ∈ wsX4_distanceOfSpelled := by decide +kernel
  have w5 : Cond.initialized "java/lang/Math" ∈ wsX4_distanceOfSpelled := by decide +kernel
  have w6 : Cond.code Lib.Math.abs.name Lib.Math.abs.code 1 (some .int) ∈ wsX4_distanceOfSpelled := by decide +kernel
  refine Mi.of (cc := cX4_distanceOfSpelled) (nL := 6) (own := RX4) hDis (by decide) rfl [(0, .ref (ad 0)), (1, .int (nI t))] rfl (Nat.le_of_ble_eq_true rfl) rfl ?_
  intro p e s m args below meth c A Q C hret
  refine tg_iconst C (nI 0) dX4_distanceOfSpelled_0 1 rfl (by decide) ?_
  refine tg_istore_n C dX4_distanceOfSpelled_1 2 rfl rfl [(2, .int (nI 0)), (0, .ref (ad 0)), (1, .int (nI t))] (by decide) rfl ?_
  refine tg_iconst C (nI 0) dX4_distanceOfSpelled_2 3 rfl (by decide) ?_
  refine tg_istore_n C dX4_distanceOfSpelled_3 4 rfl rfl [(3, .int (nI 0)), (2, .int (nI 0)), (0, .ref (ad 0)), (1, .int (nI t))] (by decide) rfl ?_
  have L4 : ∀ (n4 : Nat) (o a9 : Nat), (o ≤ 36 ∧ a9 = sm (dst1 c0 (ct t)) o ∧ a9 ≤ 36 * o) → 36 - o < n4 → TT p l e (Rm 1 24) s m args below meth c D cy ad A 6 0 0 Q σ 4 [(0, .ref (ad 0)), (1, .int (nI t)), (2, .int (nI a9)), (3, .int (nI o))] [] := by
    intro n4
    induction n4 with
    | zero => intro o a9 _ hn4; exact absurd hn4 (Nat.not_lt_zero _)
    | succ n4 ih4 =>
      intro o a9 ⟨ho, ha, hb⟩ hn4
      refine tg_iload_n C dX4_distanceOfSpelled_4 5 rfl rfl 3 rfl ?_
      refine tg_bipush C (nI 36) dX4_distanceOfSpelled_5 7 rfl (by decide) ?_
      refine tg_icmp_ge C 66 dX4_distanceOfSpelled_7 (by decide) 10 rfl (fun c7 => ?_) (fun c7 => ?_)
      · -- to 66
        replace c7 : 36 ≤ o := (nI_leI (by omega) (by omega)).mp c7
        refine tg_iload_n C dX4_distanceOfSpelled_66 67 rfl rfl 2 rfl ?_
        exact hret dX4_distanceOfSpelled_67 ⟨by rw [ha, show o = 36 by omega]; rfl, rfl⟩
      · -- on
        replace c7 : ¬ 36 ≤ o := fun q => c7 ((nI_leI (by omega) (by omega)).mpr q)
        refine tg_aload_n C dX4_distanceOfSpelled_10 11 rfl rfl 0 rfl ?_
        refine tg_get (T := TX4) (N := 8) (Cn := RX4) C 0 (by decide) (e_0 ad cy _) rfl w1 1 (by decide) w0 rfl rfl dX4_distanceOfSpelled_11 14 rfl ?_
        refine tg_iload_n C dX4_distanceOfSpelled_14 15 rfl rfl 3 rfl ?_
        refine tg_callVi C 3 isTy.own.lt (isTy.own.e ad cy _) rfl (c_X3_rankOf l D cy ad hDis σ isTy.own hO (r9 := o) (by omega)) (cwV 1 C.2.2.2.2.1 gX4_distanceOfSpelled_X3_rankOf rfl rfl rfl (by decide +kernel) ⟨Nat.le_of_ble_eq_true rfl, Nat.le_of_ble_eq_true rfl⟩) rfl rfl (Nat.le_of_ble_eq_true rfl) ⟨Nat.le_of_ble_eq_true rfl, Nat.le_of_ble_eq_true rfl⟩ dX4_distanceOfSpelled_15 18 rfl (fun r15 τ15 h15 => ?_)
        obtain ⟨h15, h15s⟩ := h15
        subst h15s
        subst h15
        refine tg_istore C dX4_distanceOfSpelled_18 20 rfl [(4, .int (rkI c0 o)), (0, .ref (ad 0)), (1, .int (nI t)), (2, .int (nI a9)), (3, .int (nI o))] (by decide) rfl ?_
        refine tg_iload C dX4_distanceOfSpelled_20 22 rfl 0 rfl ?_
        refine tg_iconst C (-1) dX4_distanceOfSpelled_22 23 rfl (by decide) ?_
        refine tg_icmp_eq C 60 dX4_distanceOfSpelled_23 (by decide) 26 rfl (fun c23 => ?_) (fun c23 => ?_)
        · -- to 60
          replace c23 := rkI_m1.mp c23
          refine tg_iinc C (nI (o + 1)) dX4_distanceOfSpelled_60 63 rfl 4 rfl (nI_add o 1) [(3, .int (nI (o + 1))), (4, .int (rkI c0 o)), (0, .ref (ad 0)), (1, .int (nI t)), (2, .int (nI a9))] (by decide) rfl ?_
          refine tg_goto C 4 dX4_distanceOfSpelled_63 (by decide) ?_
          refine tg_sub [2, 3, 4, 0] rfl ?_
          exact ih4 (o + 1) (a9) ⟨by omega, by show _ = sm (dst1 c0 (ct t)) o + dst1 c0 (ct t) o; rw [← ha]; unfold dst1; first | (rw [if_pos c23]; omega) | (rw [if_neg c23, if_pos c42]) | (rw [if_neg c23, if_neg c42]), by omega⟩ (by omega)
        · -- on
          replace c23 : ¬ c0 o = 0 := fun q => c23 (rkI_m1.mpr q)
          rw [rkI_of c23]
          have hk1 := rkN_le c0 o
          have hk2 := rkN_le (ct t) o
          refine tg_aload_n C dX4_distanceOfSpelled_26 27 rfl rfl 1 rfl ?_
          refine tg_get (T := TX4) (N := 8) (Cn := RX4) C 0 (by decide) (e_0 ad cy _) rfl w1 2 (by decide) w2 rfl rfl dX4_distanceOfSpelled_27 30 rfl ?_
          refine tg_iload_n C dX4_distanceOfSpelled_30 31 rfl rfl 2 rfl ?_
          refine tg_aald C 5 1 (by decide) (e_5 ad cy _) rfl rfl t rfl (by omega) (by decide) dX4_distanceOfSpelled_31 32 rfl ?_
          refine tg_iload_n C dX4_distanceOfSpelled_32 33 rfl rfl 4 rfl ?_
          refine tg_callVi C (6 + t) (isTy.at (show t < 5 by omega)).lt ((isTy.at (show t < 5 by omega)).e ad cy _) rfl (c_X3_rankOf l D cy ad hDis σ (isTy.at ht) (hT t ht) (r9 := o) (by omega)) (cwV 1 C.2.2.2.2.1 gX4_distanceOfSpelled_X3_rankOf rfl rfl rfl (by decide +kernel) ⟨Nat.le_of_ble_eq_true rfl, Nat.le_of_ble_eq_true rfl⟩) rfl rfl (Nat.le_of_ble_eq_true rfl) ⟨Nat.le_of_ble_eq_true rfl, Nat.le_of_ble_eq_true rfl⟩ dX4_distanceOfSpelled_33 36 rfl (fun r33 τ33 h33 => ?_)
          obtain ⟨h33, h33s⟩ := h33
          subst h33s
          subst h33
          refine tg_istore C dX4_distanceOfSpelled_36 38 rfl [(5, .int (rkI (ct t) o)), (4, .int (nI (rkN c0 o))), (0, .ref (ad 0)), (1, .int (nI t)), (2, .int (nI a9)), (3, .int (nI o))] (by decide) rfl ?_
          refine tg_iload_n C dX4_distanceOfSpelled_38 39 rfl rfl 4 rfl ?_
          refine tg_iload C dX4_distanceOfSpelled_39 41 rfl 0 rfl ?_
          refine tg_iconst C (-1) dX4_distanceOfSpelled_41 42 rfl (by decide) ?_
          refine tg_icmp_ne C 50 dX4_distanceOfSpelled_42 (by decide) 45 rfl (fun c42 => ?_) (fun c42 => ?_)
          · -- to 50
            replace c42 : ¬ ct t o = 0 := fun q => c42 (rkI_m1.mpr q)
            rw [rkI_of c42]
            have hab : absd (rkN c0 o) (rkN (ct t) o) ≤ 36 := by unfold absd; split <;> omega
            refine tg_iload C dX4_distanceOfSpelled_50 52 rfl 1 rfl ?_
            refine tg_iload C dX4_distanceOfSpelled_52 54 rfl 0 rfl ?_
            refine tg_isub C (nI (rkN c0 o) - nI (rkN (ct t) o)) dX4_distanceOfSpelled_54 55 rfl (rfl) ?_
            refine tg_mabs C w3 w4 w5 w6 (Nat.le_of_ble_eq_true rfl) (Nat.le_of_ble_eq_true rfl) ⟨Nat.le_of_ble_eq_true rfl, Nat.le_of_ble_eq_true rfl⟩ dX4_distanceOfSpelled_55 58 rfl ?_
            refine tg_top (y := nI (absd (rkN c0 o) (rkN (ct t) o))) (abs_nI (by omega) (by omega)) ?_
            refine tg_iadd C (nI (a9 + (absd (rkN c0 o) (rkN (ct t) o)))) dX4_distanceOfSpelled_58 59 rfl (nI_add a9 (absd (rkN c0 o) (rkN (ct t) o))) ?_
            refine tg_istore_n C dX4_distanceOfSpelled_59 60 rfl rfl [(2, .int (nI (a9 + (absd (rkN c0 o) (rkN (ct t) o))))), (5, .int (nI (rkN (ct t) o))), (4, .int (nI (rkN c0 o))), (0, .ref (ad 0)), (1, .int (nI t)), (3, .int (nI o))] (by decide) rfl ?_
            refine tg_iinc C (nI (o + 1)) dX4_distanceOfSpelled_60 63 rfl 5 rfl (nI_add o 1) [(3, .int (nI (o + 1))), (2, .int (nI (a9 + (absd (rkN c0 o) (rkN (ct t) o))))), (5, .int (nI (rkN (ct t) o))), (4, .int (nI (rkN c0 o))), (0, .ref (ad 0)), (1, .int (nI t))] (by decide) rfl ?_
            refine tg_goto C 4 dX4_distanceOfSpelled_63 (by decide) ?_
            refine tg_sub [4, 5, 1, 0] rfl ?_
            exact ih4 (o + 1) (a9 + (absd (rkN c0 o) (rkN (ct t) o))) ⟨by omega, by show _ = sm (dst1 c0 (ct t)) o + dst1 c0 (ct t) o; rw [← ha]; unfold dst1; first | (rw [if_pos c23]; omega) | (rw [if_neg c23, if_pos c42]) | (rw [if_neg c23, if_neg c42]), by omega⟩ (by omega)
          · -- on
            replace c42 := rkI_m1.mp c42
            refine tg_bipush C (nI 36) dX4_distanceOfSpelled_45 47 rfl (by decide) ?_
            refine tg_goto C 58 dX4_distanceOfSpelled_47 (by decide) ?_
            refine tg_iadd C (nI (a9 + 36)) dX4_distanceOfSpelled_58 59 rfl (nI_add a9 36) ?_
            refine tg_istore_n C dX4_distanceOfSpelled_59 60 rfl rfl [(2, .int (nI (a9 + 36))), (5, .int (rkI (ct t) o)), (4, .int (nI (rkN c0 o))), (0, .ref (ad 0)), (1, .int (nI t)), (3, .int (nI o))] (by decide) rfl ?_
            refine tg_iinc C (nI (o + 1)) dX4_distanceOfSpelled_60 63 rfl 5 rfl (nI_add o 1) [(3, .int (nI (o + 1))), (2, .int (nI (a9 + 36))), (5, .int (rkI (ct t) o)), (4, .int (nI (rkN c0 o))), (0, .ref (ad 0)), (1, .int (nI t))] (by decide) rfl ?_
            refine tg_goto C 4 dX4_distanceOfSpelled_63 (by decide) ?_
            refine tg_sub [4, 5, 1, 0] rfl ?_
            exact ih4 (o + 1) (a9 + 36) ⟨by omega, by show _ = sm (dst1 c0 (ct t)) o + dst1 c0 (ct t) o; rw [← ha]; unfold dst1; first | (rw [if_pos c23]; omega) | (rw [if_neg c23, if_pos c42]) | (rw [if_neg c23, if_neg c42]), by omega⟩ (by omega)
  refine tg_sub [2, 3, 1, 0] rfl ?_
  exact L4 _ 0 0 ⟨by omega, rfl, by omega⟩ (Nat.lt_succ_self _)
set_option maxHeartbeats 4000000 in
set_option maxRecDepth 100000 in
theorem c_X4_tellByRanks (l : Launch) (D : va_G) (cy : Nat → ClassId) (ad : Nat → Nat) (hDis : Dis ad) (σ : sS) {tc mg pr : Nat} (hX : Xs σ tc mg pr) {n : Nat} {w : Nat → Nat} (hS : Sp σ n w) {ct : Nat → Nat → Nat} {mt : Nat → Nat} (hT : Ta σ ct mt) : Mi l yX4_tellByRanks wsX4_tellByRanks 3 63 D cy ad [.ref (ad 0)] σ (fun r τ => r = tbI n tc (fun u => dstN (ownN n w (rc n)) (ct u)) ∧ ∀ j, j ≠ 3 → j ≠ 4 → τ j = σ j) := by
  have w0 : Cond.fieldLink RX4 10 "Tonguetell" "spelled" "LTonguetell$Spelling;" ∈ wsX4_tellByRanks := by decide +kernel
  have w1 : ∀ w ∈ wsX40, w ∈ wsX4_tellByRanks := by decide +kernel
  have w2 : Cond.fieldLink RX4 62 "Tonguetell$Spelling" "length" "I" ∈ wsX4_tellByRanks := by decide +kernel
  have w3 : ∀ w ∈ wsX20, w ∈ wsX4_tellByRanks := by decide +kernel
  have w4 : Cond.fieldLink RX4 41 "Tonguetell" "tongueCount" "I" ∈ wsX4_tellByRanks := by decide +kernel
  obtain ⟨hx1, hx2, hx3, hx4, hx5, hx6⟩ := id hX
  have hn16 := hS.2.1
  have hrc := rc_le hn16
  have hrn := rn_lt (fun k h => (hS.2.2 k h).2)
  refine Mi.of (cc := cX4_tellByRanks) (nL := 5) (own := RX4) hDis (by decide) rfl [(0, .ref (ad 0))] rfl (Nat.le_of_ble_eq_true rfl) rfl ?_
  intro p e s m args below meth c A Q C hret
  refine tg_aload_n C dX4_tellByRanks_0 1 rfl rfl 0 rfl ?_
  refine tg_get (T := TX4) (N := 8) (Cn := RX4) C 0 (by decide) (e_0 ad cy _) rfl w1 0 (by decide) w0 rfl rfl dX4_tellByRanks_1 4 rfl ?_
  refine tg_get (T := TX2) (N := 2) (Cn := RX2) C 1 (by decide) (e_1 ad cy _) rfl w3 1 (by decide) w2 rfl rfl dX4_tellByRanks_4 7 rfl ?_
  refine tg_top (y := nI n) (hS.1) ?_
  refine tg_if_eq C 17 dX4_tellByRanks_7 (by decide) 10 rfl (fun c7 => ?_) (fun c7 => ?_)
  · -- to 17
    replace c7 : n = 0 := (z_eq (by omega)).mp c7
    refine tg_iconst C (-1) dX4_tellByRanks_17 18 rfl (by decide) ?_
    exact hret dX4_tellByRanks_18 ⟨(if_pos (by omega)).symm, fun _ _ _ => rfl⟩
  · -- on
    replace c7 : ¬ n = 0 := fun q => c7 ((z_eq (by omega)).mpr q)
    refine tg_aload_n C dX4_tellByRanks_10 11 rfl rfl 0 rfl ?_
    refine tg_get (T := TX4) (N := 8) (Cn := RX4) C 0 (by decide) (e_0 ad cy _) rfl w1 5 (by decide) w4 rfl rfl dX4_tellByRanks_11 14 rfl ?_
    refine tg_top (y := nI tc) (hX.1) ?_
    refine tg_if_ne C 19 dX4_tellByRanks_14 (by decide) 17 rfl (fun c14 => ?_) (fun c14 => ?_)
    · -- to 19
      replace c14 : ¬ tc = 0 := fun q => c14 ((z_eq (by omega)).mpr q)
      refine tg_aload_n C dX4_tellByRanks_19 20 rfl rfl 0 rfl ?_
      refine tg_callVv C 0 (by decide) (e_0 ad cy _) rfl (c_X4_tallySpelled l D cy ad hDis σ hS) (cwV 0 C.2.2.2.2.1 gX4_tellByRanks_X4_tallySpelled rfl rfl rfl (by decide +kernel) ⟨Nat.le_of_ble_eq_true rfl, Nat.le_of_ble_eq_true rfl⟩) rfl rfl (Nat.le_of_ble_eq_true rfl) ⟨Nat.le_of_ble_eq_true rfl, Nat.le_of_ble_eq_true rfl⟩ dX4_tellByRanks_20 23 rfl (fun τ20 h20 => ?_)
      have hT1 : Ta τ20 ct mt := hT.fr (fun j h1 h2 => h20.2 j (by omega) (by omega))
      have hX1 : Xs τ20 tc mg pr := hX.fr (h20.2 0 (by decide) (by decide))
      refine tg_iconst C (nI 0) dX4_tellByRanks_23 24 rfl (by decide) ?_
      refine tg_istore_n C dX4_tellByRanks_24 25 rfl rfl [(1, .int (nI 0)), (0, .ref (ad 0))] (by decide) rfl ?_
      refine tg_aload_n C dX4_tellByRanks_25 26 rfl rfl 1 rfl ?_
      refine tg_iload_n C dX4_tellByRanks_26 27 rfl rfl 0 rfl ?_
      refine tg_callVi C 0 (by decide) (e_0 ad cy _) rfl (c_X4_distanceOfSpelled l D cy ad hDis τ20 hT1 h20.1 (t := 0) (by omega)) (cwV 1 C.2.2.2.2.1 gX4_tellByRanks_X4_distanceOfSpelled rfl rfl rfl (by decide +kernel) ⟨Nat.le_of_ble_eq_true rfl, Nat.le_of_ble_eq_true rfl⟩) rfl rfl (Nat.le_of_ble_eq_true rfl) ⟨Nat.le_of_ble_eq_true rfl, Nat.le_of_ble_eq_true rfl⟩ dX4_tellByRanks_27 30 rfl (fun r27 τ27 h27 => ?_)
      obtain ⟨h27, h27s⟩ := h27
      subst h27s
      subst h27
      refine tg_istore_n C dX4_tellByRanks_30 31 rfl rfl [(2, .int (nI (dstN (ownN n w (rc n)) (ct 0)))), (1, .int (nI 0)), (0, .ref (ad 0))] (by decide) rfl ?_
      refine tg_iconst C (nI 1) dX4_tellByRanks_31 32 rfl (by decide) ?_
      refine tg_istore_n C dX4_tellByRanks_32 33 rfl rfl [(3, .int (nI 1)), (2, .int (nI (dstN (ownN n w (rc n)) (ct 0)))), (1, .int (nI 0)), (0, .ref (ad 0))] (by decide) rfl ?_
      have L33 : ∀ (n33 : Nat) (t b9 : Nat), (t ≤ tc ∧ b9 = amin (fun u => dstN (ownN n w (rc n)) (ct u)) t ∧ b9 < t) → tc - t < n33 → TT p l e (Rm 3 63) s m args below meth c D cy ad A 5 0 0 Q τ20 33 [(0, .ref (ad 0)), (1, .int (nI b9)), (2, .int (nI (dstN (ownN n w (rc n)) (ct b9)))), (3, .int (nI t))] [] := by
        intro n33
        induction n33 with
        | zero => intro t b9 _ hn33; exact absurd hn33 (Nat.not_lt_zero _)
        | succ n33 ih33 =>
          intro t b9 ⟨ht, hb, hl⟩ hn33
          refine tg_iload_n C dX4_tellByRanks_33 34 rfl rfl 3 rfl ?_
          refine tg_aload_n C dX4_tellByRanks_34 35 rfl rfl 0 rfl ?_
          refine tg_get (T := TX4) (N := 8) (Cn := RX4) C 0 (by decide) (e_0 ad cy _) rfl w1 5 (by decide) w4 rfl rfl dX4_tellByRanks_35 38 rfl ?_
          refine tg_top (y := nI tc) (hX1.1) ?_
          refine tg_icmp_ge C 65 dX4_tellByRanks_38 (by decide) 41 rfl (fun c38 => ?_) (fun c38 => ?_)
          · -- to 65
            replace c38 : tc ≤ t := (nI_leI (by omega) (by omega)).mp c38
            refine tg_iload_n C dX4_tellByRanks_65 66 rfl rfl 1 rfl ?_
            exact hret dX4_tellByRanks_66 ⟨by unfold tbI; rw [if_neg (by omega), hb, show t = tc by omega], h20.2⟩
          · -- on
            replace c38 : ¬ tc ≤ t := fun q => c38 ((nI_leI (by omega) (by omega)).mpr q)
            have hcl := dstN_le (ownN n w (rc n)) (ct t)
            have hcl2 := dstN_le (ownN n w (rc n)) (ct b9)
            refine tg_aload_n C dX4_tellByRanks_41 42 rfl rfl 0 rfl ?_
            refine tg_iload_n C dX4_tellByRanks_42 43 rfl rfl 3 rfl ?_
            refine tg_callVi C 0 (by decide) (e_0 ad cy _) rfl (c_X4_distanceOfSpelled l D cy ad hDis τ20 hT1 h20.1 (t := t) (by omega)) (cwV 1 C.2.2.2.2.1 gX4_tellByRanks_X4_distanceOfSpelled rfl rfl rfl (by decide +kernel) ⟨Nat.le_of_ble_eq_true rfl, Nat.le_of_ble_eq_true rfl⟩) rfl rfl (Nat.le_of_ble_eq_true rfl) ⟨Nat.le_of_ble_eq_true rfl, Nat.le_of_ble_eq_true rfl⟩ dX4_tellByRanks_43 46 rfl (fun r43 τ43 h43 => ?_)
            obtain ⟨h43, h43s⟩ := h43
            subst h43s
            subst h43
            refine tg_istore C dX4_tellByRanks_46 48 rfl [(4, .int (nI (dstN (ownN n w (rc n)) (ct t)))), (0, .ref (ad 0)), (1, .int (nI b9)), (2, .int (nI (dstN (ownN n w (rc n)) (ct b9)))), (3, .int (nI t))] (by decide) rfl ?_
            refine tg_iload C dX4_tellByRanks_48 50 rfl 0 rfl ?_
            refine tg_iload_n C dX4_tellByRanks_50 51 rfl rfl 3 rfl ?_
            refine tg_icmp_ge C 59 dX4_tellByRanks_51 (by decide) 54 rfl (fun c51 => ?_) (fun c51 => ?_)
            · -- to 59
              replace c51 : (dstN (ownN n w (rc n)) (ct b9)) ≤ (dstN (ownN n w (rc n)) (ct t)) := (nI_leI (by omega) (by omega)).mp c51
              refine tg_iinc C (nI (t + 1)) dX4_tellByRanks_59 62 rfl 4 rfl (nI_add t 1) [(3, .int (nI (t + 1))), (4, .int (nI (dstN (ownN n w (rc n)) (ct t)))), (0, .ref (ad 0)), (1, .int (nI b9)), (2, .int (nI (dstN (ownN n w (rc n)) (ct b9))))] (by decide) rfl ?_
              refine tg_goto C 33 dX4_tellByRanks_62 (by decide) ?_
              refine tg_sub [2, 3, 4, 0] rfl ?_
              exact ih33 (t + 1) (b9) ⟨by omega, by rw [amin, ← hb]; exact (if_neg (by omega)).symm, by omega⟩ (by omega)
            · -- on
              replace c51 : ¬ (dstN (ownN n w (rc n)) (ct b9)) ≤ (dstN (ownN n w (rc n)) (ct t)) := fun q => c51 ((nI_leI (by omega) (by omega)).mpr q)
              refine tg_iload_n C dX4_tellByRanks_54 55 rfl rfl 4 rfl ?_
              refine tg_istore_n C dX4_tellByRanks_55 56 rfl rfl [(1, .int (nI t)), (4, .int (nI (dstN (ownN n w (rc n)) (ct t)))), (0, .ref (ad 0)), (2, .int (nI (dstN (ownN n w (rc n)) (ct b9)))), (3, .int (nI t))] (by decide) rfl ?_
              refine tg_iload C dX4_tellByRanks_56 58 rfl 1 rfl ?_
              refine tg_istore_n C dX4_tellByRanks_58 59 rfl rfl [(2, .int (nI (dstN (ownN n w (rc n)) (ct t)))), (1, .int (nI t)), (4, .int (nI (dstN (ownN n w (rc n)) (ct t)))), (0, .ref (ad 0)), (3, .int (nI t))] (by decide) rfl ?_
              refine tg_iinc C (nI (t + 1)) dX4_tellByRanks_59 62 rfl 4 rfl (nI_add t 1) [(3, .int (nI (t + 1))), (2, .int (nI (dstN (ownN n w (rc n)) (ct t)))), (1, .int (nI t)), (4, .int (nI (dstN (ownN n w (rc n)) (ct t)))), (0, .ref (ad 0))] (by decide) rfl ?_
              refine tg_goto C 33 dX4_tellByRanks_62 (by decide) ?_
              refine tg_sub [4, 2, 1, 0] rfl ?_
              exact ih33 (t + 1) (t) ⟨by omega, by rw [amin, ← hb]; exact (if_pos (by omega)).symm, by omega⟩ (by omega)
      refine tg_sub [3, 2, 1, 0] rfl ?_
      exact L33 _ 1 0 ⟨by omega, by simp [amin], by omega⟩ (Nat.lt_succ_self _)
    · -- on
      replace c14 : tc = 0 := (z_eq (by omega)).mp c14
      refine tg_iconst C (-1) dX4_tellByRanks_17 18 rfl (by decide) ?_
      exact hret dX4_tellByRanks_18 ⟨(if_pos (by omega)).symm, fun _ _ _ => rfl⟩
