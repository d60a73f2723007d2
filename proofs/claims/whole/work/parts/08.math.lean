/-! ===== plain words: a text's runs, costs, ranks, sums ===== -/
theorem z_eq {a : Nat} (h : a < 2 ^ 31) : nI a = 0 ↔ a = 0 := by rw [← nI_0, nI_eq h (by decide)]
theorem z_gt {a : Nat} (h : a < 2 ^ 31) : 0 < nI a ↔ 0 < a := by rw [← nI_0, nI_ltI (by decide) h]
theorem z_le {a : Nat} (h : a < 2 ^ 31) : nI a ≤ 0 ↔ a = 0 := by rw [← nI_0, nI_leI h (by decide)]; omega
theorem z_nlt {a : Nat} (h : a < 2 ^ 31) : ¬ nI a < 0 := nI_pos h
theorem z_ge {a : Nat} (h : a < 2 ^ 31) : 0 ≤ nI a := nI_pos' h
theorem m1_lt : (-1 : Int32) < 0 := by decide
theorem m1_ne {a : Nat} (h : a < 2 ^ 31) : ¬ nI a = -1 := fun q => nI_pos h (by rw [q]; decide)
/-- the letter at place k of a text of n letters w, a gap (0) behind it -/
def ltr (n : Nat) (w : Nat → Nat) (k : Nat) : Nat := if k < n then w k else 0
/-- the run at place k -/
def rn (n : Nat) (w : Nat → Nat) (k : Nat) : Nat := 6 * (if k = 0 then 0 else ltr n w (k - 1)) + ltr n w k
/-- how many runs -/
def rc (n : Nat) : Nat := if n = 0 then 0 else n + 1
def Sp (σ : sS) (n : Nat) (w : Nat → Nat) : Prop := σ 1 1 = nI n ∧ n ≤ 16 ∧ ∀ k, k < n → σ 2 k = nI (w k) ∧ w k < 6
theorem ltr_lt {n : Nat} {w : Nat → Nat} (h : ∀ k, k < n → w k < 6) (k : Nat) : ltr n w k < 6 := by
  unfold ltr
  split
  · exact h k (by assumption)
  · omega
theorem rn_lt {n : Nat} {w : Nat → Nat} (h : ∀ k, k < n → w k < 6) (k : Nat) : rn n w k < 36 := by
  unfold rn
  have h1 := ltr_lt h k
  have h2 := ltr_lt h (k - 1)
  split <;> omega
theorem rc_le {n : Nat} (h : n ≤ 16) : rc n ≤ 17 := by unfold rc; split <;> omega
/-- cell a, with b its counts, counts c, and m in all -/
def Tl (σ : sS) (a b : Nat) (c : Nat → Nat) (m : Nat) : Prop := σ a 1 = nI m ∧ m ≤ 600 ∧ ∀ r, r < 36 → σ b r = nI (c r) ∧ c r ≤ 600
/-- how often a is doubled till it is b or more, at most f times -/
def dbl : Nat → Nat → Nat → Nat
  | 0, _, _ => 0
  | f + 1, a, b => if a < b then dbl f (a * 2) b + 1 else 0
theorem dbl_le : ∀ (f a b : Nat), dbl f a b ≤ f
  | 0, _, _ => Nat.le_refl 0
  | f + 1, a, b => by
    unfold dbl
    split
    · exact Nat.succ_le_succ (dbl_le f _ _)
    · exact Nat.zero_le _
/-- the cost of a run that was counted c times, of m in all -/
def costN (c m : Nat) : Nat := dbl 10 (c + 1) (m + 36)
theorem costN_le (c m : Nat) : costN c m ≤ 10 := dbl_le _ _ _
def sm (f : Nat → Nat) : Nat → Nat
  | 0 => 0
  | n + 1 => sm f n + f n
theorem sm_le {f : Nat → Nat} {B : Nat} : ∀ (n : Nat), (∀ k, k < n → f k ≤ B) → sm f n ≤ n * B
  | 0, _ => by simp [sm]
  | n + 1, h => by
    have h1 := sm_le n (fun k hk => h k (by omega))
    have h2 := h n (by omega)
    rw [Nat.succ_mul]
    exact Nat.add_le_add h1 h2
theorem sm_congr {f g : Nat → Nat} : ∀ (n : Nat), (∀ k, k < n → f k = g k) → sm f n = sm g n
  | 0, _ => rfl
  | n + 1, h => by
    show sm f n + f n = sm g n + g n
    rw [sm_congr n (fun k hk => h k (by omega)), h n (by omega)]
/-- ahead of run r stands run o -/
def ahd (c : Nat → Nat) (r o : Nat) : Nat := if c r < c o ∨ (c o = c r ∧ o < r) then 1 else 0
theorem ahd_le (c : Nat → Nat) (r o : Nat) : ahd c r o ≤ 1 := by unfold ahd; split <;> omega
def rkN (c : Nat → Nat) (r : Nat) : Nat := sm (ahd c r) 36
theorem rkN_le (c : Nat → Nat) (r : Nat) : rkN c r ≤ 36 := by
  exact Nat.le_trans (sm_le (f := ahd c r) (B := 1) 36 (fun k _ => ahd_le c r k)) (by decide)
/-- a rank as it is answered -/
def rkI (c : Nat → Nat) (r : Nat) : Int32 := if c r = 0 then -1 else nI (rkN c r)
