/-! ===== the calls as the law makes them: none throws ===== -/
theorem y_total (l : Launch) (hl0 : l.stackTraces = false) (D : va_G) (cy : Nat → ClassId) (ad : Nat → Nat) (hDis : Dis ad) (σ : sS) {tc mg pr : Nat} (hX : Xs σ tc mg pr) {ct : Nat → Nat → Nat} {mt : Nat → Nat} (hT : Ta σ ct mt) {t d : Nat} (ht : t < tc) (hd : mt t = d) : Yi l yX4_total wsX4_total 7 111 1 6 D cy ad [.ref (ad 0), .int (nI t)] σ (fun r τ => r = nI d ∧ σ = τ) :=
  (c_X4_total l hl0 D cy ad hDis σ hX hT (x := nI t)).yi (fun r τ h => by
    obtain ⟨⟨t2, h1, h2, h3⟩, h4⟩ := h
    obtain rfl : t = t2 := nI_inj (by have := hX.2.2.2.1; omega) (by have := hX.2.2.2.1; omega) h2
    exact ⟨by rw [h3, hd], h4⟩) (fun E τ h => h.2.1 ⟨t, ht, rfl⟩)
theorem y_textCost (l : Launch) (hl0 : l.stackTraces = false) (D : va_G) (cy : Nat → ClassId) (ad : Nat → Nat) (hDis : Dis ad) (σ : sS) {tc mg pr : Nat} (hX : Xs σ tc mg pr) {n : Nat} {w : Nat → Nat} (hS : Sp σ n w) {ct : Nat → Nat → Nat} {mt : Nat → Nat} (hT : Ta σ ct mt) {t d : Nat} (ht : t < tc) (hd : ctxN n w (ct t) (mt t) = d) : Yi l yX4_textCost wsX4_textCost 7 111 1 6 D cy ad [.ref (ad 0), .int (nI t)] σ (fun r τ => r = nI d ∧ σ = τ) :=
  (c_X4_textCost l hl0 D cy ad hDis σ hX hS hT (x := nI t)).yi (fun r τ h => by
    obtain ⟨⟨t2, h1, h2, h3⟩, h4⟩ := h
    obtain rfl : t = t2 := nI_inj (by have := hX.2.2.2.1; omega) (by have := hX.2.2.2.1; omega) h2
    exact ⟨by rw [h3, hd], h4⟩) (fun E τ h => h.2.1 ⟨t, ht, rfl⟩)
theorem y_count (l : Launch) (hl0 : l.stackTraces = false) (D : va_G) (cy : Nat → ClassId) (ad : Nat → Nat) (hDis : Dis ad) (σ : sS) {tc mg pr : Nat} (hX : Xs σ tc mg pr) {ct : Nat → Nat → Nat} {mt : Nat → Nat} (hT : Ta σ ct mt) {t k d : Nat} (ht : t < tc) (hk : k < 36) (hd : ct t k = d) : Yi l yX4_count wsX4_count 7 111 2 12 D cy ad [.ref (ad 0), .int (nI t), .int (nI k)] σ (fun r τ => r = nI d ∧ σ = τ) :=
  (c_X4_count l hl0 D cy ad hDis σ hX hT (x := nI t) (y := nI k)).yi (fun r τ h => by
    obtain ⟨⟨t2, k2, h1, h1k, h2, h2k, h3⟩, h4⟩ := h
    obtain rfl : t = t2 := nI_inj (by have := hX.2.2.2.1; omega) (by have := hX.2.2.2.1; omega) h2
    obtain rfl : k = k2 := nI_inj (by omega) (by omega) h2k
    exact ⟨by rw [h3, hd], h4⟩) (fun E τ h => h.2.1 ⟨⟨t, ht, rfl⟩, ⟨k, hk, rfl⟩⟩)
theorem y_cost (l : Launch) (hl0 : l.stackTraces = false) (D : va_G) (cy : Nat → ClassId) (ad : Nat → Nat) (hDis : Dis ad) (σ : sS) {tc mg pr : Nat} (hX : Xs σ tc mg pr) {ct : Nat → Nat → Nat} {mt : Nat → Nat} (hT : Ta σ ct mt) {t k d : Nat} (ht : t < tc) (hk : k < 36) (hd : costN (ct t k) (mt t) = d) : Yi l yX4_cost wsX4_cost 7 111 2 12 D cy ad [.ref (ad 0), .int (nI t), .int (nI k)] σ (fun r τ => r = nI d ∧ σ = τ) :=
  (c_X4_cost l hl0 D cy ad hDis σ hX hT (x := nI t) (y := nI k)).yi (fun r τ h => by
    obtain ⟨⟨t2, k2, h1, h1k, h2, h2k, h3⟩, h4⟩ := h
    obtain rfl : t = t2 := nI_inj (by have := hX.2.2.2.1; omega) (by have := hX.2.2.2.1; omega) h2
    obtain rfl : k = k2 := nI_inj (by omega) (by omega) h2k
    exact ⟨by rw [h3, hd], h4⟩) (fun E τ h => h.2.1 ⟨⟨t, ht, rfl⟩, ⟨k, hk, rfl⟩⟩)
theorem y_runAt (l : Launch) (hl0 : l.stackTraces = false) (D : va_G) (cy : Nat → ClassId) (ad : Nat → Nat) (hDis : Dis ad) (σ : sS) {n : Nat} {w : Nat → Nat} (hS : Sp σ n w) {k d : Nat} (hk : k < rc n) (hd : rn n w k = d) : Yi l yX4_runAt wsX4_runAt 7 111 1 6 D cy ad [.ref (ad 0), .int (nI k)] σ (fun r τ => r = nI d ∧ σ = τ) :=
  (c_X4_runAt l hl0 D cy ad hDis σ hS (x := nI k)).yi (fun r τ h => by
    obtain ⟨⟨k2, h1, h2, h3⟩, h4⟩ := h
    have hr := rc_le hS.2.1
    obtain rfl : k = k2 := nI_inj (by omega) (by omega) h2
    exact ⟨by rw [h3, hd], h4⟩) (fun E τ h => h.2.1 ⟨k, hk, rfl⟩)
theorem y_cutCost (l : Launch) (hl0 : l.stackTraces = false) (D : va_G) (cy : Nat → ClassId) (ad : Nat → Nat) (hDis : Dis ad) (σ : sS) {tc mg pr : Nat} (hX : Xs σ tc mg pr) {n : Nat} {w : Nat → Nat} (hS : Sp σ n w) {ct : Nat → Nat → Nat} {mt : Nat → Nat} (hT : Ta σ ct mt) {K : Nat → Nat → Nat} {N9 : Nat} (hK : kst n w ct mt = K) (hN : rc n = N9) (htc : 0 < tc) : Yi l yX4_cutCost wsX4_cutCost 7 134 1 6 D cy ad [.ref (ad 0)] σ (fun r τ => r = nI (lb K pr tc N9 N9 0) ∧ ∀ j, j < 51 → τ j = σ j) :=
  (c_X4_cutCost l hl0 D cy ad hDis σ hX hS hT).yi (fun r τ h => by
    subst hK
    subst hN
    exact ⟨h.2.1, fun j hj => h.2.2 j (Or.inl hj)⟩) (fun E τ h => absurd h.2.1 (by omega))
theorem y_stretches (l : Launch) (hl0 : l.stackTraces = false) (D : va_G) (cy : Nat → ClassId) (ad : Nat → Nat) (hDis : Dis ad) (σ : sS) {tc mg pr : Nat} (hX : Xs σ tc mg pr) {n : Nat} {w : Nat → Nat} (hS : Sp σ n w) {ct : Nat → Nat → Nat} {mt : Nat → Nat} (hT : Ta σ ct mt) {K : Nat → Nat → Nat} {N9 : Nat} (hK : kst n w ct mt = K) (hN : rc n = N9) (htc : 0 < tc) : Yi l yX4_stretches wsX4_stretches 7 136 1 6 D cy ad [.ref (ad 0)] σ (fun r τ => r = nI (stc (fun i => tdb K pr tc N9 (i + 1) - 1) N9) ∧ ∀ j, j < 51 → τ j = σ j) :=
  (c_X4_stretches l hl0 D cy ad hDis σ hX hS hT).yi (fun r τ h => by
    subst hK
    subst hN
    exact ⟨h.2.1, fun j hj => h.2.2 j (Or.inl hj)⟩) (fun E τ h => absurd h.2.1 (by omega))
theorem y_cutCostByTrying (l : Launch) (hl0 : l.stackTraces = false) (D : va_G) (cy : Nat → ClassId) (ad : Nat → Nat) (hDis : Dis ad) (σ : sS) {tc mg pr : Nat} (hX : Xs σ tc mg pr) {n : Nat} {w : Nat → Nat} (hS : Sp σ n w) {ct : Nat → Nat → Nat} {mt : Nat → Nat} (hT : Ta σ ct mt) {K : Nat → Nat → Nat} {N9 : Nat} (hK : kst n w ct mt = K) (hN : rc n = N9) (htc : 0 < tc) (hn5 : n ≤ 5) : Yi l yX4_cutCostByTrying wsX4_cutCostByTrying 8 195 2 12 D cy ad [.ref (ad 0)] σ (fun r τ => r = nI (lb K pr tc N9 N9 0) ∧ ∀ j, j < 51 → τ j = σ j) :=
  (c_X4_cutCostByTrying l hl0 D cy ad hDis σ hX hS hT).yi (fun r τ h => by
    subst hK
    subst hN
    exact ⟨h.2.2.1, fun j hj => h.2.2.2 j (Or.inl hj)⟩) (fun E τ h => by have := h.2.1; omega)
theorem y_cutTongue (l : Launch) (hl0 : l.stackTraces = false) (D : va_G) (cy : Nat → ClassId) (ad : Nat → Nat) (hDis : Dis ad) (σ : sS) {tc mg pr : Nat} (hX : Xs σ tc mg pr) {n : Nat} {w : Nat → Nat} (hS : Sp σ n w) {ct : Nat → Nat → Nat} {mt : Nat → Nat} (hT : Ta σ ct mt) {K : Nat → Nat → Nat} {N9 : Nat} (hK : kst n w ct mt = K) (hN : rc n = N9) (htc : 0 < tc) {k : Nat} (hk : k < N9) : Yi l yX4_cutTongue wsX4_cutTongue 7 136 2 12 D cy ad [.ref (ad 0), .int (nI k)] σ (fun r τ => r = nI (tdb K pr tc N9 (k + 1) - 1) ∧ ∀ j, j < 51 → τ j = σ j) :=
  (c_X4_cutTongue l hl0 D cy ad hDis σ hX hS hT (x := nI k)).yi (fun r τ h => by
    subst hK
    subst hN
    obtain ⟨-, ⟨k2, h1, h2, h3⟩, h4⟩ := h
    have hr := rc_le hS.2.1
    obtain rfl : k = k2 := nI_inj (by omega) (by omega) h2
    exact ⟨h3, fun j hj => h4 j (Or.inl hj)⟩) (fun E τ h => by
  subst hN
  rcases h.1 with h | h
  · omega
  · exact h.2.2 ⟨k, hk, rfl⟩)
theorem y_spell (l : Launch) (hl0 : l.stackTraces = false) (D : va_G) (cy : Nat → ClassId) (ad : Nat → Nat) (hDis : Dis ad) (σ : sS) {n : Nat} {w : Nat → Nat} (hS : Sp σ n w) {x : Int32} {v : Nat} (hv : lnI x = nI v) (hv6 : v < 6) (hn : n < 16) : Yi l yX4_spell wsX4_spell 6 90 1 6 D cy ad [.ref (ad 0), .int x] σ (fun r τ => r = nI (n + 1) ∧ τ = su (su σ 2 n (nI v)) 1 1 (nI (n + 1))) :=
  (c_X4_spell l hl0 D cy ad hDis σ hS (x := x)).yi (fun r τ h => by
    rw [hv] at h
    exact ⟨h.2.2.1, h.2.2.2⟩) (fun E τ h => by
  rw [hv] at h
  rcases h.1 with h | h
  · exact m1_ne (by omega) h.2
  · omega)
theorem y_addTongue (l : Launch) (hl0 : l.stackTraces = false) (D : va_G) (cy : Nat → ClassId) (ad : Nat → Nat) (hDis : Dis ad) (σ : sS) {tc mg pr : Nat} (hX : Xs σ tc mg pr) (ht : tc < 5) : Yi l yX4_addTongue wsX4_addTongue 6 90 1 6 D cy ad [.ref (ad 0)] σ (fun r τ => r = nI tc ∧ τ = su σ 0 5 (nI (tc + 1))) :=
  (c_X4_addTongue l hl0 D cy ad hDis σ hX).yi (fun r τ h => by
    exact ⟨h.2.1, h.2.2⟩) (fun E τ h => by have := h.2.1; omega)
theorem y_setPrice (l : Launch) (hl0 : l.stackTraces = false) (D : va_G) (cy : Nat → ClassId) (ad : Nat → Nat) (hDis : Dis ad) (σ : sS) {tc mg pr : Nat} (hX : Xs σ tc mg pr) {q : Nat} (hq : q ≤ 100) : Yi l yX4_setPrice wsX4_setPrice 6 90 1 6 D cy ad [.ref (ad 0), .int (nI q)] σ (fun r τ => r = nI pr ∧ τ = su σ 0 7 (nI q)) :=
  (c_X4_setPrice l hl0 D cy ad hDis σ hX (x := nI q)).yi (fun r τ h => by
    exact ⟨h.2.1, h.2.2⟩) (fun E τ h => h.2.1 ⟨q, by omega, rfl⟩)
theorem y_teach (l : Launch) (hl0 : l.stackTraces = false) (D : va_G) (cy : Nat → ClassId) (ad : Nat → Nat) (hDis : Dis ad) (σ : sS) {tc mg pr : Nat} (hX : Xs σ tc mg pr) {n : Nat} {w : Nat → Nat} (hS : Sp σ n w) {ct : Nat → Nat → Nat} {mt : Nat → Nat} (hT : Ta σ ct mt) {nx : Nat} (h4 : σ 16 4 = nI nx) (hnx : nx ≤ 10000) (hB : ∀ t, t < 5 → mt t ≤ 510 ∧ ∀ r, ct t r ≤ 510) {t : Nat} (ht : t < tc) (hn : 0 < n) (hs : fsw (σ 17) (-1) 30 0 < 30) : Yi l yX4_teach wsX4_teach 7 111 2 12 D cy ad [.ref (ad 0), .int (nI t)] σ (fun r τ => r = nI nx ∧ Kept σ τ (fsw (σ 17) (-1) 30 0) nx t (rc n) 0 n w (ct t) (mt t)) :=
  (c_X4_teach l hl0 D cy ad hDis σ hX hS hT h4 hnx hB (x := nI t)).yi (fun r τ h => by
    obtain ⟨t2, h1, h2, h3, h5, h6, h7⟩ := h
    obtain rfl : t = t2 := nI_inj (by have := hX.2.2.2.1; omega) (by have := hX.2.2.2.1; omega) h2
    exact ⟨h6, h7⟩) (fun E τ h => by
  rcases h.1 with h | h
  · exact h.2 ⟨t, ht, rfl⟩
  · omega)
theorem y_tongueOf (l : Launch) (hl0 : l.stackTraces = false) (D : va_G) (cy : Nat → ClassId) (ad : Nat → Nat) (hDis : Dis ad) (σ : sS) {nx s t : Nat} (hnx : nx ≤ 10000) (hf : fsw (σ 17) (nI nx) 30 0 = s) (hs : s < 30) (h18 : σ 18 s = nI t) : Yi l yX4_tongueOf wsX4_tongueOf 7 112 1 6 D cy ad [.ref (ad 0), .int (nI nx)] σ (fun r τ => r = nI t ∧ σ = τ) :=
  (c_X4_tongueOf l hl0 D cy ad hDis σ (x := nI nx)).yi (fun r τ h => by
    rw [hf, h18] at h
    exact ⟨h.2.2.1, h.2.2.2⟩) (fun E τ h => by
  rw [hf] at h
  rcases h.2.1 with h | h
  · exact nI_pos (by omega) h
  · omega)
theorem y_withdraw (l : Launch) (hl0 : l.stackTraces = false) (D : va_G) (cy : Nat → ClassId) (ad : Nat → Nat) (hDis : Dis ad) (σ : sS) {ct : Nat → Nat → Nat} {mt : Nat → Nat} (hT : Ta σ ct mt) {nx s t ln : Nat} {rr : Nat → Nat} (hnx : nx ≤ 10000) (hf : fsw (σ 17) (nI nx) 30 0 = s) (hs : s < 30) (h18 : σ 18 s = nI t) (ht : t < 5) (h19 : σ 19 s = nI ln) (hln : ln ≤ 17) (hrr : ∀ p, p < ln → σ (21 + s) p = nI (rr p) ∧ rr p < 36) (hc : ∀ r, cntF rr ln r ≤ ct t r) (hm : ln ≤ mt t) : Yi l yX4_withdraw wsX4_withdraw 7 112 1 6 D cy ad [.ref (ad 0), .int (nI nx)] σ (fun r τ => r = nI ln ∧ τ 17 = upd (σ 17) s (-1) ∧ Tl τ (6 + t) (11 + t) (fun r => ct t r - cntF rr ln r) (mt t - ln) ∧ ∀ j, j ≠ 17 → j ≠ 6 + t → j ≠ 11 + t → τ j = σ j) :=
  (c_X4_withdraw l hl0 D cy ad hDis σ hT (x := nI nx) (t := t) (ln := ln) (rr := rr) (fun _ _ => by rw [hf]; exact ⟨h18, ht, h19, hln, hrr, hc, hm⟩)).yi (fun r τ h => by
    rw [hf] at h
    exact h.2.2) (fun E τ h => by
  rw [hf] at h
  rcases h.2.1 with h | h
  · exact nI_pos (by omega) h
  · omega)
theorem stc_st1 {k : Nat → Nat → Nat} {pr tc N i : Nat} (h : tdb k pr tc N i = tdb k pr tc N (i + 1)) : (if i = 0 ∨ (fun i => tdb k pr tc N (i + 1) - 1) i ≠ (fun i => tdb k pr tc N (i + 1) - 1) (i - 1) then 1 else 0) = 0 := by
  refine if_neg (fun q => ?_)
  rcases q with q | q
  · subst q
    simp [tdb] at h
  · refine q ?_
    cases i with
    | zero => simp [tdb] at h
    | succ j =>
      show tdb k pr tc N (j + 1 + 1) - 1 = tdb k pr tc N (j + 1) - 1
      rw [h]
theorem stc_st2 {k : Nat → Nat → Nat} {pr tc N i : Nat} (h : ¬ tdb k pr tc N i = tdb k pr tc N (i + 1)) : (if i = 0 ∨ (fun i => tdb k pr tc N (i + 1) - 1) i ≠ (fun i => tdb k pr tc N (i + 1) - 1) (i - 1) then 1 else 0) = 1 := by
  refine if_pos ?_
  cases i with
  | zero => exact Or.inl rfl
  | succ j =>
    refine Or.inr (fun q => h ?_)
    have q : tdb k pr tc N (j + 1 + 1) - 1 = tdb k pr tc N (j + 1) - 1 := q
    have h1 : tdb k pr tc N (j + 1 + 1) = amin (fun u => rb k pr tc N (N - (j + 1)) u + chg pr (tdb k pr tc N (j + 1)) u) tc + 1 := rfl
    have h2 : tdb k pr tc N (j + 1) = amin (fun u => rb k pr tc N (N - j) u + chg pr (tdb k pr tc N j) u) tc + 1 := rfl
    omega
theorem lnI_v {x : Int32} (h1 : nI 97 ≤ x) (h2 : x ≤ nI 101) : ∃ v, v < 6 ∧ x - nI 97 + nI 1 = nI v := by
  obtain ⟨j, hj, rfl⟩ := nI_of (x := x) (Int32.not_lt.mpr (Int32.le_trans (by decide) h1))
  have h3 := (nI_leI (by omega) hj).mp h1
  have h4 := (nI_leI hj (by omega)).mp h2
  exact ⟨j - 96, by omega, by rw [pk_sub h3, nI_add]; congr 1; omega⟩
theorem lnI_c (x : Int32) : lnI x = -1 ∨ ∃ v, v < 6 ∧ lnI x = nI v := by
  unfold lnI
  split
  · exact Or.inr ⟨0, by omega, rfl⟩
  · split
    · rename_i h; obtain ⟨v, h1, h2⟩ := lnI_v h.1 h.2; exact Or.inr ⟨v, h1, h2⟩
    · exact Or.inl rfl
