/-! ===== plain words: a text's runs, costs, ranks, sums ===== -/
theorem z_eq {a : Nat} (h : a < 2 ^ 31) : nI a = 0 ↔ a = 0 := by rw [← nI_0, nI_eq h (by decide)]
theorem z_gt {a : Nat} (h : a < 2 ^ 31) : 0 < nI a ↔ 0 < a := by rw [← nI_0, nI_ltI (by decide) h]
theorem z_le {a : Nat} (h : a < 2 ^ 31) : nI a ≤ 0 ↔ a = 0 := by rw [← nI_0, nI_leI h (by decide)]; omega
theorem z_nlt {a : Nat} (h : a < 2 ^ 31) : ¬ nI a < 0 := nI_pos h
theorem z_ge {a : Nat} (h : a < 2 ^ 31) : 0 ≤ nI a := nI_pos' h
theorem m1_lt : (-1 : Int32) < 0 := by decide
theorem m1_ne {a : Nat} (h : a < 2 ^ 31) : ¬ nI a = -1 := fun q => nI_pos h (by rw [q]; decide)
/-- the letter at place k of a text of n letters w, a gap (0) behind it -/
def ltr (n : Nat) (w : Nat → Nat) (k : Nat) : Nat := if k < n then w k else 0
/-- the run at place k -/
def rn (n : Nat) (w : Nat → Nat) (k : Nat) : Nat := 6 * (if k = 0 then 0 else ltr n w (k - 1)) + ltr n w k
/-- how many runs -/
def rc (n : Nat) : Nat := if n = 0 then 0 else n + 1
def Sp (σ : sS) (n : Nat) (w : Nat → Nat) : Prop := σ 1 1 = nI n ∧ n ≤ 16 ∧ ∀ k, k < n → σ 2 k = nI (w k) ∧ w k < 6
theorem ltr_lt {n : Nat} {w : Nat → Nat} (h : ∀ k, k < n → w k < 6) (k : Nat) : ltr n w k < 6 := by
  unfold ltr
  split
  · exact h k (by assumption)
  · omega
theorem rn_lt {n : Nat} {w : Nat → Nat} (h : ∀ k, k < n → w k < 6) (k : Nat) : rn n w k < 36 := by
  unfold rn
  have h1 := ltr_lt h k
  have h2 := ltr_lt h (k - 1)
  split <;> omega
theorem rc_le {n : Nat} (h : n ≤ 16) : rc n ≤ 17 := by unfold rc; split <;> omega
/-- cell a, with b its counts, counts c, and m in all -/
def Tl (σ : sS) (a b : Nat) (c : Nat → Nat) (m : Nat) : Prop := σ a 1 = nI m ∧ m ≤ 600 ∧ ∀ r, r < 36 → σ b r = nI (c r) ∧ c r ≤ 600
/-- how often a is doubled till it is b or more, at most f times -/
def dbl : Nat → Nat → Nat → Nat
  | 0, _, _ => 0
  | f + 1, a, b => if a < b then dbl f (a * 2) b + 1 else 0
theorem dbl_le : ∀ (f a b : Nat), dbl f a b ≤ f
  | 0, _, _ => Nat.le_refl 0
  | f + 1, a, b => by
    unfold dbl
    split
    · exact Nat.succ_le_succ (dbl_le f _ _)
    · exact Nat.zero_le _
/-- the cost of a run that was counted c times, of m in all -/
def costN (c m : Nat) : Nat := dbl 10 (c + 1) (m + 36)
theorem costN_le (c m : Nat) : costN c m ≤ 10 := dbl_le _ _ _
def sm (f : Nat → Nat) : Nat → Nat
  | 0 => 0
  | n + 1 => sm f n + f n
theorem sm_le {f : Nat → Nat} {B : Nat} : ∀ (n : Nat), (∀ k, k < n → f k ≤ B) → sm f n ≤ n * B
  | 0, _ => by simp [sm]
  | n + 1, h => by
    have h1 := sm_le n (fun k hk => h k (by omega))
    have h2 := h n (by omega)
    rw [Nat.succ_mul]
    exact Nat.add_le_add h1 h2
theorem sm_congr {f g : Nat → Nat} : ∀ (n : Nat), (∀ k, k < n → f k = g k) → sm f n = sm g n
  | 0, _ => rfl
  | n + 1, h => by
    show sm f n + f n = sm g n + g n
    rw [sm_congr n (fun k hk => h k (by omega)), h n (by omega)]
/-- ahead of run r stands run o -/
def ahd (c : Nat → Nat) (r o : Nat) : Nat := if c r < c o ∨ (c o = c r ∧ o < r) then 1 else 0
theorem ahd_le (c : Nat → Nat) (r o : Nat) : ahd c r o ≤ 1 := by unfold ahd; split <;> omega
def rkN (c : Nat → Nat) (r : Nat) : Nat := sm (ahd c r) 36
theorem rkN_le (c : Nat → Nat) (r : Nat) : rkN c r ≤ 36 := by
  exact Nat.le_trans (sm_le (f := ahd c r) (B := 1) 36 (fun k _ => ahd_le c r k)) (by decide)
/-- a rank as it is answered -/
def rkI (c : Nat → Nat) (r : Nat) : Int32 := if c r = 0 then -1 else nI (rkN c r)
/-- the first place from i on, of k, where f has x -/
def fsw (f : Nat → Int32) (x : Int32) : Nat → Nat → Nat
  | 0, i => i
  | k + 1, i => if f i = x then i else fsw f x k (i + 1)
theorem fsw_ge (f : Nat → Int32) (x : Int32) : ∀ (k i : Nat), i ≤ fsw f x k i ∧ fsw f x k i ≤ i + k
  | 0, i => ⟨Nat.le_refl _, Nat.le_refl _⟩
  | k + 1, i => by
    unfold fsw
    split
    · omega
    · have := fsw_ge f x k (i + 1)
      omega
theorem fsw_at (f : Nat → Int32) (x : Int32) : ∀ (k i : Nat), fsw f x k i < i + k → f (fsw f x k i) = x
  | 0, i => fun h => by simp [fsw] at h
  | k + 1, i => by
    unfold fsw
    split
    · intro _; assumption
    · intro h
      exact fsw_at f x k (i + 1) (by omega)
theorem fsw_no (f : Nat → Int32) (x : Int32) : ∀ (k i j : Nat), i ≤ j → j < fsw f x k i → f j ≠ x
  | 0, i, j => fun h1 h2 => by simp [fsw] at h2; omega
  | k + 1, i, j => by
    unfold fsw
    split
    · intro h1 h2; omega
    · intro h1 h2 e
      rcases Nat.eq_or_lt_of_le h1 with h | h
      · subst h; contradiction
      · exact fsw_no f x k (i + 1) j h h2 e
/-- its answer: -1 if there is none among the 30 -/
def fsI (f : Nat → Int32) (x : Int32) : Int32 := if fsw f x 30 0 = 30 then -1 else nI (fsw f x 30 0)
theorem fsw_30 (f : Nat → Int32) (x : Int32) : fsw f x 30 0 ≤ 30 := by have := (fsw_ge f x 30 0).2; omega
theorem fsI_m1 {f : Nat → Int32} {x : Int32} : fsI f x = -1 ↔ fsw f x 30 0 = 30 := by
  unfold fsI
  split
  · simp [*]
  · have h := fsw_30 f x
    exact ⟨fun q => absurd q (m1_ne (by omega)), fun q => by contradiction⟩
/-- a tongue before: none (0), or t (t + 1) -/
def bv : Nat → Int32
  | 0 => -1
  | t + 1 => nI t
theorem bv_m1 {b : Nat} (h : b ≤ 100) : bv b = -1 ↔ b = 0 := by
  cases b with
  | zero => exact ⟨fun _ => rfl, fun _ => rfl⟩
  | succ t => exact ⟨fun q => absurd q (m1_ne (by omega)), fun q => by omega⟩
theorem bv_t {b t : Nat} (h : b ≤ 100) (ht : t ≤ 100) : bv b = nI t ↔ b = t + 1 := by
  cases b with
  | zero => exact ⟨fun q => absurd q.symm (m1_ne (by omega)), fun q => by omega⟩
  | succ u =>
    show nI u = nI t ↔ _
    rw [nI_eq (by omega) (by omega)]
    omega
theorem bv_lt {b : Nat} (h : b ≤ 100) : bv b < 0 ↔ b = 0 := by
  cases b with
  | zero => exact ⟨fun _ => rfl, fun _ => by decide⟩
  | succ u => exact ⟨fun q => absurd q (nI_pos (by omega)), fun q => by omega⟩
def chg (pr b t : Nat) : Nat := if b = 0 ∨ b = t + 1 then 0 else pr
theorem chg_le (pr b t : Nat) : chg pr b t ≤ pr := by unfold chg; split <;> omega
/-- the first of n places where g is least -/
def amin (g : Nat → Nat) : Nat → Nat
  | 0 => 0
  | n + 1 => if g n < g (amin g n) then n else amin g n
theorem amin_lt (g : Nat → Nat) : ∀ (n : Nat), 0 < n → amin g n < n
  | 0, h => absurd h (Nat.lt_irrefl _)
  | n + 1, _ => by
    unfold amin
    split
    · omega
    · cases n with
      | zero => simp [amin]
      | succ k => have := amin_lt g (k + 1) (by omega); omega
theorem amin_min (g : Nat → Nat) : ∀ (n k : Nat), k < n → g (amin g n) ≤ g k
  | 0, k, h => absurd h (Nat.not_lt_zero _)
  | n + 1, k, h => by
    unfold amin
    rcases Nat.lt_or_ge k n with h1 | h1
    · have := amin_min g n k h1
      split <;> omega
    · have e : k = n := by omega
      subst e
      split <;> omega
theorem amin_first (g : Nat → Nat) : ∀ (n k : Nat), k < amin g n → g (amin g n) < g k
  | 0, k, h => by simp [amin] at h
  | n + 1, k, h => by
    unfold amin at h ⊢
    split
    · rename_i hc
      rw [if_pos hc] at h
      have := amin_min g n k h
      omega
    · rename_i hc
      rw [if_neg hc] at h
      exact amin_first g n k h
theorem amin_congr {g h : Nat → Nat} : ∀ (n : Nat), (∀ k, k < n → g k = h k) → amin g n = amin h n
  | 0, _ => rfl
  | n + 1, e => by
    have h1 := amin_congr n (fun k hk => e k (by omega))
    unfold amin
    rw [h1, e n (by omega)]
    cases n with
    | zero => rw [show amin h 0 = 0 from rfl, e 0 (by omega)]
    | succ k => rw [e (amin h (k + 1)) (by have := amin_lt h (k + 1) (by omega); omega)]
/-- the least cost of the last j runs of N, the first of them in tongue t: k p t their costs, pr the price -/
def rb (k : Nat → Nat → Nat) (pr tc N : Nat) : Nat → Nat → Nat
  | 0, _ => 0
  | j + 1, t => k (N - (j + 1)) t + (if j = 0 then 0 else (fun g : Nat → Nat => g (amin g tc)) (fun u => rb k pr tc N j u + chg pr (t + 1) u))
/-- .. behind a run in tongue b - 1, or behind none (0) -/
def lb (k : Nat → Nat → Nat) (pr tc N j b : Nat) : Nat := if j = 0 then 0 else (fun g : Nat → Nat => g (amin g tc)) (fun u => rb k pr tc N j u + chg pr b u)
theorem rb_succ (k : Nat → Nat → Nat) (pr tc N j t : Nat) : rb k pr tc N (j + 1) t = k (N - (j + 1)) t + lb k pr tc N j (t + 1) := by
  unfold lb
  rw [rb]
theorem rb_le {k : Nat → Nat → Nat} {pr tc N : Nat} (hk : ∀ p t, p < N → t < tc → k p t ≤ 10) (hpr : pr ≤ 100) (htc : 0 < tc) : ∀ (j t : Nat), j ≤ N → t < tc → rb k pr tc N j t ≤ 110 * j
  | 0, t, _, _ => by simp [rb]
  | j + 1, t, hj, ht => by
    rw [rb_succ]
    have h1 := hk (N - (j + 1)) t (by omega) ht
    have h2 : lb k pr tc N j (t + 1) ≤ 110 * j + 100 := by
      unfold lb
      split
      · omega
      · have h3 := rb_le hk hpr htc j (amin (fun u => rb k pr tc N j u + chg pr (t + 1) u) tc) (by omega) (amin_lt _ _ htc)
        have h4 := chg_le pr (t + 1) (amin (fun u => rb k pr tc N j u + chg pr (t + 1) u) tc)
        show rb k pr tc N j _ + chg pr (t + 1) _ ≤ _
        omega
    omega
/-- the told cut: what stands ahead of place i (0: none; t + 1: tongue t) -/
def tdb (k : Nat → Nat → Nat) (pr tc N : Nat) : Nat → Nat
  | 0 => 0
  | i + 1 => amin (fun u => rb k pr tc N (N - i) u + chg pr (tdb k pr tc N i) u) tc + 1
theorem tdb_le {k : Nat → Nat → Nat} {pr tc N : Nat} (htc : 0 < tc) (i : Nat) : tdb k pr tc N i ≤ tc := by
  cases i with
  | zero => exact Nat.zero_le _
  | succ i => exact amin_lt _ _ htc
/-- the cutter's numbers -/
def Ct (σ : sS) (N tc pr : Nat) : Prop := σ 51 3 = nI N ∧ σ 51 4 = nI tc ∧ σ 51 5 = nI pr ∧ N ≤ 17 ∧ tc ≤ 5 ∧ pr ≤ 100 ∧ 0 < tc
def Cs (σ : sS) (N tc : Nat) (k : Nat → Nat → Nat) : Prop := ∀ p t, p < N → t < tc → σ (53 + p) t = nI (k p t) ∧ k p t ≤ 10
/-- the rows of rest from place q on -/
def Rs (σ : sS) (N tc q : Nat) (k : Nat → Nat → Nat) (pr : Nat) : Prop := ∀ p t, q ≤ p → p < N → t < tc → σ (72 + p) t = nI (rb k pr tc N (N - p) t)
