/-! ===== plain words for p27: the least power, the counts' sum, the told cut's cost ===== -/
theorem dbl_lt : ∀ (f a b k : Nat), k < dbl f a b → a * 2 ^ k < b
  | 0, _, _, k, h => absurd h (Nat.not_lt_zero k)
  | f + 1, a, b, k, h => by
    unfold dbl at h
    split at h
    · rename_i hab
      cases k with
      | zero => simpa using hab
      | succ j =>
        have h1 := dbl_lt f (a * 2) b j (by omega)
        rw [Nat.pow_succ, Nat.mul_comm (2 ^ j) 2, ← Nat.mul_assoc]
        exact h1
    · omega
theorem dbl_ge : ∀ (f a b : Nat), b ≤ a * 2 ^ f → b ≤ a * 2 ^ dbl f a b
  | 0, _, _, h => h
  | f + 1, a, b, h => by
    unfold dbl
    split
    · have h1 := dbl_ge f (a * 2) b (by rw [Nat.mul_assoc, Nat.mul_comm 2, ← Nat.pow_succ]; exact h)
      rw [Nat.pow_succ, Nat.mul_comm (2 ^ _) 2, ← Nat.mul_assoc]
      exact h1
    · simp only [Nat.pow_zero, Nat.mul_one]
      omega
theorem costN_zero {c m : Nat} (hm : m ≤ 600) (h : costN c m = 0) : m + 36 ≤ c + 1 := by
  have h1 := dbl_ge 10 (c + 1) (m + 36) (by simp only [Nat.reducePow]; omega)
  rw [show dbl 10 (c + 1) (m + 36) = 0 from h] at h1
  simpa using h1
theorem costN_pos {c m : Nat} (hm : m ≤ 600) (h : 0 < costN c m) : m + 36 ≤ (c + 1) * 2 * 2 ^ (costN c m - 1) ∧ (c + 1) * 2 ^ (costN c m - 1) < m + 36 := by
  have h1 := dbl_ge 10 (c + 1) (m + 36) (by simp only [Nat.reducePow]; omega)
  have h2 := dbl_lt 10 (c + 1) (m + 36) (costN c m - 1) (show costN c m - 1 < costN c m by omega)
  refine ⟨?_, h2⟩
  have e : costN c m = (costN c m - 1) + 1 := by omega
  rw [show dbl 10 (c + 1) (m + 36) = costN c m from rfl, e, Nat.pow_succ, Nat.mul_comm (2 ^ _) 2, ← Nat.mul_assoc] at h1
  exact h1
/-- what the law multiplies up -/
theorem pow_le9 {d : Nat} (h : d ≤ 10) : 2 ^ (d - 1) ≤ 512 := Nat.pow_le_pow_right (by decide) (show d - 1 ≤ 9 by omega)
theorem sm_add (f g : Nat → Nat) : ∀ n, sm (fun k => f k + g k) n = sm f n + sm g n
  | 0 => rfl
  | n + 1 => by
    show sm (fun k => f k + g k) n + (f n + g n) = sm f n + f n + (sm g n + g n)
    rw [sm_add f g n]
    omega
theorem sm_zero : ∀ n, sm (fun _ => 0) n = 0
  | 0 => rfl
  | n + 1 => by
    show sm (fun _ => 0) n + 0 = 0
    rw [sm_zero n]
theorem sm_one (v : Nat) : ∀ n, sm (fun r => if v = r then 1 else 0) n = if v < n then 1 else 0
  | 0 => by simp [sm]
  | n + 1 => by
    show sm (fun r => if v = r then 1 else 0) n + (if v = n then 1 else 0) = _
    rw [sm_one v n]
    split <;> split <;> split <;> omega
theorem sm_ownF {n : Nat} {w : Nat → Nat} (h : ∀ k, rn n w k < 36) (f : Nat) : ∀ ln, sm (ownF n w f ln) 36 = ln
  | 0 => sm_zero 36
  | ln + 1 => by
    have e : ownF n w f (ln + 1) = fun r => ownF n w f ln r + (if rn n w (f + ln) = r then 1 else 0) := rfl
    rw [e, sm_add, sm_ownF h f ln, sm_one, if_pos (h _)]
theorem sm_upd (g : Int32 → Nat) (f : Nat → Int32) (s : Nat) (x : Int32) : ∀ n, sm (fun k => g (upd f s x k)) n = if s < n then sm (fun k => g (f k)) n + g x - g (f s) else sm (fun k => g (f k)) n
  | 0 => by simp [sm]
  | n + 1 => by
    show sm (fun k => g (upd f s x k)) n + g (upd f s x n) = _
    rw [sm_upd g f s x n]
    have e1 : sm (fun k => g (f k)) (n + 1) = sm (fun k => g (f k)) n + g (f n) := rfl
    rcases Nat.lt_trichotomy s n with h | h | h
    · rw [if_pos h, if_pos (by omega), e1, show upd f s x n = f n from if_neg (by omega)]
      have h2 : g (f s) ≤ sm (fun k => g (f k)) n := by
        clear e1
        induction n with
        | zero => omega
        | succ m ih =>
          show _ ≤ sm (fun k => g (f k)) m + g (f m)
          by_cases hm : s = m
          · subst hm; omega
          · have := ih (by omega); omega
      omega
    · subst h
      rw [if_neg (by omega), if_pos (by omega), e1, show upd f s x s = x from if_pos rfl]
      omega
    · rw [if_neg (by omega), if_neg (by omega), e1, show upd f s x n = f n from if_neg (by omega)]
/-- how many of the 30 slots hold a text -/
def occ (f : Nat → Int32) : Nat := sm (fun k => if f k = -1 then 0 else 1) 30
theorem occ_free {f : Nat → Int32} (h : occ f < 30) : fsw f (-1) 30 0 < 30 := by
  have h30 := fsw_30 f (-1)
  refine Nat.lt_of_le_of_ne h30 fun e => ?_
  have hall : ∀ k, k < 30 → (if f k = -1 then 0 else 1) = 1 := fun k hk => if_neg (fsw_no f (-1) 30 0 k (by omega) (by omega))
  have : occ f = sm (fun _ => 1) 30 := sm_congr 30 hall
  rw [this] at h
  exact absurd h (by decide)
theorem occ_take {f : Nat → Int32} {s : Nat} {x : Int32} (hs : s < 30) (h1 : f s = -1) (h2 : ¬ x = -1) : occ (upd f s x) = occ f + 1 := by
  have h := sm_upd (fun y => if y = -1 then 0 else 1) f s x 30
  rw [if_pos hs] at h
  show sm _ 30 = sm _ 30 + 1
  rw [h, h1, if_neg h2, if_pos rfl]
  rfl
theorem occ_drop {f : Nat → Int32} {s : Nat} (hs : s < 30) (h1 : ¬ f s = -1) : occ (upd f s (-1)) + 1 = occ f := by
  have h := sm_upd (fun y => if y = -1 then 0 else 1) f s (-1) 30
  rw [if_pos hs] at h
  have h2 : 1 ≤ occ f := by
    have hk : ∀ n, s < n → 1 ≤ sm (fun k => if f k = -1 then 0 else 1) n := by
      intro n
      induction n with
      | zero => intro h; omega
      | succ m ih =>
        intro hm
        show 1 ≤ sm _ m + (if f m = -1 then 0 else 1)
        by_cases e : s = m
        · subst e; rw [if_neg h1]; omega
        · have := ih (by omega); omega
    exact hk 30 hs
  have h3 : occ (upd f s (-1)) = occ f + 0 - 1 := by
    show sm _ 30 = _
    rw [h, if_neg h1, if_pos rfl]
    rfl
  omega
theorem fsw_upd {f : Nat → Int32} {s nx : Nat} (hs : s < 30) (hnx : nx ≤ 10000) (h : ∀ k, k < 30 → f k = -1 ∨ ∃ m, m < nx ∧ f k = nI m) : fsw (upd f s (nI nx)) (nI nx) 30 0 = s := by
  have h1 : upd f s (nI nx) s = nI nx := if_pos rfl
  have hle : fsw (upd f s (nI nx)) (nI nx) 30 0 ≤ s := Nat.le_of_not_lt fun hlt => fsw_no (upd f s (nI nx)) (nI nx) 30 0 s (by omega) hlt h1
  have hat := fsw_at (upd f s (nI nx)) (nI nx) 30 0 (by omega)
  generalize fsw (upd f s (nI nx)) (nI nx) 30 0 = j at hle hat
  by_cases e : j = s
  · exact e
  · rw [show upd f s (nI nx) j = f j from if_neg e] at hat
    rcases h j (by omega) with h | ⟨m, hm, h⟩
    · rw [h] at hat
      exact absurd hat.symm (m1_ne (by omega))
    · rw [h] at hat
      have := (nI_eq (by omega) (by omega)).mp hat
      omega
/-- what the first i runs of the told cut cost -/
def tcs (k : Nat → Nat → Nat) (pr tc N i : Nat) : Nat := sm (fun j => k j (tdb k pr tc N (j + 1) - 1) + chg pr (tdb k pr tc N j) (tdb k pr tc N (j + 1) - 1)) i
theorem lb_at {k : Nat → Nat → Nat} {pr tc N : Nat} (j b : Nat) : lb k pr tc N (j + 1) b = rb k pr tc N (j + 1) (amin (fun u => rb k pr tc N (j + 1) u + chg pr b u) tc) + chg pr b (amin (fun u => rb k pr tc N (j + 1) u + chg pr b u) tc) := by
  unfold lb
  rw [if_neg (by omega)]
theorem tcs_lb {k : Nat → Nat → Nat} {pr tc N : Nat} : ∀ i, i ≤ N → tcs k pr tc N i + lb k pr tc N (N - i) (tdb k pr tc N i) = lb k pr tc N N 0
  | 0, _ => by
    show 0 + lb k pr tc N (N - 0) 0 = _
    rw [Nat.zero_add, Nat.sub_zero]
  | i + 1, h => by
    have ih := tcs_lb (k := k) (pr := pr) (tc := tc) (N := N) i (by omega)
    obtain ⟨j, hj⟩ : ∃ j, N - i = j + 1 := ⟨N - i - 1, by omega⟩
    have ej : N - (i + 1) = j := by omega
    have hi : N - (j + 1) = i := by omega
    have et : tdb k pr tc N (i + 1) = amin (fun u => rb k pr tc N (j + 1) u + chg pr (tdb k pr tc N i) u) tc + 1 := by
      show amin (fun u => rb k pr tc N (N - i) u + chg pr (tdb k pr tc N i) u) tc + 1 = _
      rw [hj]
    rw [hj, lb_at] at ih
    rw [ej]
    show tcs k pr tc N i + (k i (tdb k pr tc N (i + 1) - 1) + chg pr (tdb k pr tc N i) (tdb k pr tc N (i + 1) - 1)) + _ = _
    rw [et, Nat.add_sub_cancel]
    rw [rb_succ, hi] at ih
    omega
theorem tcs_end {k : Nat → Nat → Nat} {pr tc N : Nat} : tcs k pr tc N N = lb k pr tc N N 0 := by
  have h := tcs_lb (k := k) (pr := pr) (tc := tc) (N := N) N (Nat.le_refl _)
  rw [Nat.sub_self] at h
  rw [← h]
  rfl
theorem chg_same (pr t : Nat) : chg pr (t + 1) t = 0 := if_pos (Or.inr rfl)
theorem chg_none (pr t : Nat) : chg pr 0 t = 0 := if_pos (Or.inl rfl)
theorem rb_one {k : Nat → Nat → Nat} {pr tc N t : Nat} (ht : t < tc) : ∀ j, j ≤ N → sm (fun i => k i t) (N - j) + rb k pr tc N j t ≤ sm (fun i => k i t) N
  | 0, _ => by
    show sm _ (N - 0) + 0 ≤ _
    rw [Nat.sub_zero]
    exact Nat.le_refl _
  | j + 1, h => by
    have ih := rb_one (k := k) (pr := pr) (N := N) ht j (by omega)
    have h1 : lb k pr tc N j (t + 1) ≤ rb k pr tc N j t := by
      cases j with
      | zero => exact Nat.zero_le _
      | succ i =>
        rw [lb_at]
        have := amin_min (fun u => rb k pr tc N (i + 1) u + chg pr (t + 1) u) tc t ht
        simp only [chg_same] at this
        omega
    rw [rb_succ]
    have e : sm (fun i => k i t) (N - j) = sm (fun i => k i t) (N - (j + 1)) + k (N - (j + 1)) t := by
      rw [show N - j = N - (j + 1) + 1 by omega]
      rfl
    omega
/-- no cut by one tongue alone costs less -/
theorem lb_one {k : Nat → Nat → Nat} {pr tc N t : Nat} (ht : t < tc) : lb k pr tc N N 0 ≤ sm (fun i => k i t) N := by
  have h := rb_one (k := k) (pr := pr) (N := N) ht N (Nat.le_refl _)
  rw [Nat.sub_self, show sm (fun i => k i t) 0 = 0 from rfl, Nat.zero_add] at h
  refine Nat.le_trans ?_ h
  cases N with
  | zero => exact Nat.zero_le _
  | succ i =>
    rw [lb_at]
    have := amin_min (fun u => rb k pr tc (i + 1) (i + 1) u + chg pr 0 u) tc t ht
    simp only [chg_none] at this ⊢
    omega
theorem lb_170 {k : Nat → Nat → Nat} {pr tc N : Nat} (hk : ∀ p t, p < N → t < tc → k p t ≤ 10) (hpr : pr ≤ 100) (htc : 0 < tc) (hN : N ≤ 17) : lb k pr tc N N 0 ≤ 170 := by
  refine Nat.le_trans (lb_one htc) ?_
  exact Nat.le_trans (sm_le (B := 10) N (fun p hp => hk p 0 hp htc)) (by omega)
theorem tcs_le {k : Nat → Nat → Nat} {pr tc N : Nat} (hk : ∀ p t, p < N → t < tc → k p t ≤ 10) (hpr : pr ≤ 100) (htc : 0 < tc) {i : Nat} (hi : i ≤ N) (hN : N ≤ 17) : tcs k pr tc N i ≤ 170 := by
  have h1 := tcs_lb (k := k) (pr := pr) (tc := tc) (N := N) i hi
  have h2 := lb_170 hk hpr htc hN
  omega
theorem tdb_in {k : Nat → Nat → Nat} {pr tc N : Nat} (htc : 0 < tc) (i : Nat) : 0 < tdb k pr tc N (i + 1) ∧ tdb k pr tc N (i + 1) - 1 < tc := by
  have : tdb k pr tc N (i + 1) = amin (fun u => rb k pr tc N (N - i) u + chg pr (tdb k pr tc N i) u) tc + 1 := rfl
  have h := amin_lt (fun u => rb k pr tc N (N - i) u + chg pr (tdb k pr tc N i) u) tc htc
  omega
theorem kst_le (n : Nat) (w : Nat → Nat) (ct : Nat → Nat → Nat) (mt : Nat → Nat) (p t : Nat) : kst n w ct mt p t ≤ 10 := costN_le _ _
