/-! ===== a call of both that changes what is kept ===== -/
theorem lrn_le (fit : Nat → Bool) : ∀ k, (lrn fit k).1 ≤ (lrn fit k).2.1 ∧ (lrn fit k).2.1 ≤ k ∧ (lrn fit k).2.2 ≤ k
  | 0 => ⟨Nat.le_refl _, Nat.le_refl _, Nat.le_refl _⟩
  | k + 1 => by
    obtain ⟨h1, h2, h3⟩ := lrn_le fit k
    obtain ⟨a, b, d, e⟩ : ∃ a b d, lrn fit k = (a, b, d) := ⟨_, _, _, rfl⟩
    rw [e] at h1 h2 h3
    have h1 : a ≤ b := h1
    have h2 : b ≤ k := h2
    have h3 : d ≤ k := h3
    cases hf : fit k with
    | false => rw [lrn_c e hf]; exact ⟨h1, Nat.le_succ_of_le h2, Nat.zero_le _⟩
    | true =>
      by_cases hc : a < d + 1
      · rw [lrn_a e hf hc]
        exact ⟨Nat.succ_le_succ h3, Nat.le_refl _, Nat.succ_le_succ h3⟩
      · rw [lrn_b e hf hc]
        exact ⟨h1, Nat.le_succ_of_le h2, Nat.succ_le_succ h3⟩
section JC
variable {σ τ τ5 : sS} {c n : Nat} {w : Nat → Nat} {tc mg pr tx nx : Nat} {nm wh wd : Nat → Nat} {kp : Nat → Nat → Nat} {loc : Nat → Nat} {r r5 x y : Int32} {E0 : String}
/-- the spelled text, the number of tongues, margin, price: what else is kept stays -/
theorem RR.face (h : RR σ c n w tc mg pr tx nx nm wh wd kp loc) {n' : Nat} {w' : Nat → Nat} {tc' mg' pr' : Nat} (hS : Sp τ n' w') (hX : Xs τ tc' mg' pr') (hM1 : τ 89 2 = nI n' ∧ n' ≤ 16 ∧ ∀ k, k < n' → τ 90 k = nI (w' k) ∧ w' k < 6) (hM2 : τ 89 3 = nI tc' ∧ τ 89 4 = nI mg' ∧ τ 89 5 = nI pr')
    (htc : tc ≤ tc') (e6 : τ 89 6 = σ 89 6) (e7 : τ 89 7 = σ 89 7) (eo : ∀ j, 2 < j → j ≠ 89 → j ≠ 90 → j ≠ 96 → τ j = σ j) : RR τ c n' w' tc' mg' pr' tx nx nm wh wd kp loc := by
  obtain ⟨-, -, hM, hT, ⟨h1, h2, h3, h4, h5⟩, hc⟩ := h
  refine ⟨hS, hX, ⟨hM1, ⟨hM2.1, hM2.2.1, hM2.2.2, hX.2.2.2⟩, by rw [e6]; exact hM.2.2.1, by rw [e7]; exact hM.2.2.2.1, hM.2.2.2.2.1, hM.2.2.2.2.2.1, fun k hk => ?_⟩, hT.fr (fun j h1 h2 => eo j (by omega) (by omega) (by omega) (by omega)), ⟨?_, fun k hk => ?_, h3, h4, fun s hs => ?_⟩, hc⟩
  · rw [eo 91 (by decide) (by decide) (by decide) (by decide), eo 92 (by decide) (by decide) (by decide) (by decide), eo 93 (by decide) (by decide) (by decide) (by decide), eo 94 (by decide) (by decide) (by decide) (by decide)]
    exact hM.2.2.2.2.2.2 k hk
  · rw [eo 16 (by decide) (by decide) (by decide) (by decide)]
    exact h1
  · obtain ⟨a1, a2, a3, a4, a5, a6, a7⟩ := h2 k hk
    rw [eo 17 (by decide) (by decide) (by decide) (by decide), eo 18 (by decide) (by decide) (by decide) (by decide), eo 19 (by decide) (by decide) (by decide) (by decide)]
    exact ⟨a1, a2, a3, a4, fun j hj => by rw [eo _ (by omega) (by omega) (by omega) (by omega)]; exact a5 j hj, a6, by omega⟩
  · rw [eo 17 (by decide) (by decide) (by decide) (by decide)]
    exact h5 s hs
theorem J_spell (h : RR σ c n w tc mg pr tx nx nm wh wd kp loc)
    (H : (∃ r1 τ1, (¬ lnI x = -1 ∧ n < 16 ∧ r1 = nI (n + 1) ∧ τ1 = su (su σ 2 n (lnI x)) 1 1 (nI (n + 1))) ∧ r = nI 0 ∧ τ = su τ1 96 0 r1) ∨ (∃ E, (((E = xIA ∧ lnI x = -1) ∨ (E = xIS ∧ ¬ lnI x = -1 ∧ 16 ≤ n)) ∧ σ = τ) ∧ ((E = xIA ∧ r = nI 1) ∨ (E = xIS ∧ r = nI 2))))
    (M : (lnI x = -1 ∧ τ5 = su τ 89 0 (nI 1)) ∨ (¬ lnI x = -1 ∧ n = 16 ∧ τ5 = su τ 89 0 (nI 2)) ∨ (¬ lnI x = -1 ∧ n < 16 ∧ r5 = nI (n + 1) ∧ τ5 = su (su (su τ 89 0 (nI 0)) 90 n (lnI x)) 89 2 (nI (n + 1)))) : Agree r τ5 r5 c := by
  rcases H with ⟨r1, τ1, ⟨hl, hn, rfl, rfl⟩, rfl, rfl⟩ | ⟨E, ⟨hE, rfl⟩, hr⟩
  · rcases M with ⟨h1, -⟩ | ⟨-, h1, -⟩ | ⟨-, -, rfl, rfl⟩
    · exact absurd h1 hl
    · omega
    · obtain ⟨v, hv, hx⟩ := (lnI_c x).resolve_left hl
      rw [hx]
      refine ⟨by rw [su_nk _ _ _ (by decide), su_ni _ _ _ (by decide), su_eq], fun _ => by rw [su_ni _ _ _ (by decide), su_ni _ _ _ (by decide), su_ni _ _ _ (by decide), su_eq], RR.rel (RR.more (h.face (n' := n + 1) (w' := un w n v) (tc' := tc) (mg' := mg) (pr' := pr) ⟨?_, by omega, fun k hk => ?_⟩ ?_ ⟨su_eq _ _ _ _, by omega, fun k hk => ?_⟩ ⟨?_, ?_, ?_⟩ (Nat.le_refl _) ?_ ?_ (fun j h1 h2 h3 h4 => ?_)))⟩
      · rw [su_ni _ _ _ (by decide), su_ni _ _ _ (by decide), su_ni _ _ _ (by decide), su_ni _ _ _ (by decide), su_eq]
      · rw [su_ni _ _ _ (by decide), su_ni _ _ _ (by decide), su_ni _ _ _ (by decide), su_ni _ _ _ (by decide), su_ni _ _ _ (by decide)]
        by_cases ek : k = n
        · subst ek; rw [su_eq, un_eq]; exact ⟨rfl, hv⟩
        · rw [su_nk _ _ _ ek, un_ne _ _ ek]; exact h.1.2.2 k (by omega)
      · unfold Xs
        rw [su_ni _ _ _ (by decide), su_ni _ _ _ (by decide), su_ni _ _ _ (by decide), su_ni _ _ _ (by decide), su_ni _ _ _ (by decide), su_ni _ _ _ (by decide)]
        exact h.2.1
      · rw [su_ni _ _ _ (by decide)]
        by_cases ek : k = n
        · subst ek; rw [su_eq, un_eq]; exact ⟨rfl, hv⟩
        · rw [su_nk _ _ _ ek, un_ne _ _ ek, su_ni _ _ _ (by decide), su_ni _ _ _ (by decide), su_ni _ _ _ (by decide), su_ni _ _ _ (by decide)]; exact h.2.2.1.1.2.2 k (by omega)
      · rw [su_nk _ _ _ (by decide), su_ni _ _ _ (by decide), su_nk _ _ _ (by decide), su_ni _ _ _ (by decide), su_ni _ _ _ (by decide), su_ni _ _ _ (by decide)]; exact h.2.2.1.2.1.1
      · rw [su_nk _ _ _ (by decide), su_ni _ _ _ (by decide), su_nk _ _ _ (by decide), su_ni _ _ _ (by decide), su_ni _ _ _ (by decide), su_ni _ _ _ (by decide)]; exact h.2.2.1.2.1.2.1
      · rw [su_nk _ _ _ (by decide), su_ni _ _ _ (by decide), su_nk _ _ _ (by decide), su_ni _ _ _ (by decide), su_ni _ _ _ (by decide), su_ni _ _ _ (by decide)]; exact h.2.2.1.2.1.2.2.1
      · rw [su_nk _ _ _ (by decide), su_ni _ _ _ (by decide), su_nk _ _ _ (by decide), su_ni _ _ _ (by decide), su_ni _ _ _ (by decide), su_ni _ _ _ (by decide)]
      · rw [su_nk _ _ _ (by decide), su_ni _ _ _ (by decide), su_nk _ _ _ (by decide), su_ni _ _ _ (by decide), su_ni _ _ _ (by decide), su_ni _ _ _ (by decide)]
      · rw [su_ni _ _ _ h2, su_ni _ _ _ h3, su_ni _ _ _ h2, su_ni _ _ _ h4, su_ni _ _ _ (by omega), su_ni _ _ _ (by omega)]
  · rcases hE with ⟨rfl, h0⟩ | ⟨rfl, h0, h1⟩
    · obtain rfl : r = nI 1 := by
        rcases hr with ⟨-, e⟩ | ⟨e, -⟩
        · exact e
        · exact absurd e (by decide)
      rcases M with ⟨-, e⟩ | ⟨hp, -⟩ | ⟨hp, -⟩
      · exact ag_no h (by decide) (by decide) e
      · exact absurd h0 hp
      · exact absurd h0 hp
    · obtain rfl : r = nI 2 := by
        rcases hr with ⟨e, -⟩ | ⟨-, e⟩
        · exact absurd e (by decide)
        · exact e
      rcases M with ⟨hp, -⟩ | ⟨-, -, e⟩ | ⟨-, hp, -⟩
      · exact absurd hp h0
      · exact ag_no h (by decide) (by decide) e
      · omega
theorem J_clear (h : RR σ c n w tc mg pr tx nx nm wh wd kp loc) {r1 : Int32} (H : r1 = nI n ∧ τ = su σ 1 1 (nI 0)) (M : r5 = nI n ∧ τ5 = su (su τ 89 0 (nI 0)) 89 2 (nI 0)) : r1 = r5 ∧ Rel τ5 (c + 1) := by
  obtain ⟨rfl, rfl⟩ := H
  obtain ⟨rfl, rfl⟩ := M
  refine ⟨rfl, RR.rel (RR.more (h.face (n' := 0) (w' := w) (tc' := tc) (mg' := mg) (pr' := pr) ⟨?_, by omega, fun k hk => by omega⟩ ?_ ⟨su_eq _ _ _ _, by omega, fun k hk => by omega⟩ ⟨?_, ?_, ?_⟩ (Nat.le_refl _) ?_ ?_ (fun j h1 h2 h3 h4 => ?_)))⟩
  · rw [su_ni _ _ _ (by decide), su_ni _ _ _ (by decide), su_eq]
  · unfold Xs
    rw [su_ni _ _ _ (by decide), su_ni _ _ _ (by decide), su_ni _ _ _ (by decide)]
    exact h.2.1
  · rw [su_nk _ _ _ (by decide), su_nk _ _ _ (by decide), su_ni _ _ _ (by decide)]; exact h.2.2.1.2.1.1
  · rw [su_nk _ _ _ (by decide), su_nk _ _ _ (by decide), su_ni _ _ _ (by decide)]; exact h.2.2.1.2.1.2.1
  · rw [su_nk _ _ _ (by decide), su_nk _ _ _ (by decide), su_ni _ _ _ (by decide)]; exact h.2.2.1.2.1.2.2.1
  · rw [su_nk _ _ _ (by decide), su_nk _ _ _ (by decide), su_ni _ _ _ (by decide)]
  · rw [su_nk _ _ _ (by decide), su_nk _ _ _ (by decide), su_ni _ _ _ (by decide)]
  · rw [su_ni _ _ _ h2, su_ni _ _ _ h2, su_ni _ _ _ (by omega)]
/-- a plain reading call, no exception -/
theorem J_dir (h : RR σ c n w tc mg pr tx nx nm wh wd kp loc) {r1 V : Int32} (H : r1 = V) (hA : Agr σ τ) (M : r5 = V ∧ τ5 = su τ 89 0 (nI 0)) : r1 = r5 ∧ Rel τ5 (c + 1) := by
  obtain ⟨rfl, rfl⟩ := M
  subst H
  refine ⟨rfl, RR.rel (RR.more (h.fr (fun k hk => ?_) (fun j h1 h2 => ?_) (fun j h1 h2 h3 => ?_)))⟩
  · rw [su_nk _ _ _ hk, hA 89 (Or.inr (by decide))]
  · rw [su_ni _ _ _ (by omega), hA j (Or.inr (by omega))]
  · rw [su_ni _ _ _ (by omega), hA j (Or.inl ⟨h1, h2, h3⟩)]
theorem J_addTongue (h : RR σ c n w tc mg pr tx nx nm wh wd kp loc)
    (H : (∃ r1 τ1, (tc < 5 ∧ r1 = nI tc ∧ τ1 = su σ 0 5 (nI (tc + 1))) ∧ r = nI 0 ∧ τ = su τ1 96 0 r1) ∨ (∃ E, (E = xIS ∧ tc = 5 ∧ σ = τ) ∧ (E = xIS ∧ r = nI 1)))
    (M : (tc < 5 ∧ r5 = nI tc ∧ τ5 = su (su τ 89 0 (nI 0)) 89 3 (nI (tc + 1))) ∨ (tc = 5 ∧ τ5 = su τ 89 0 (nI 1))) : Agree r τ5 r5 c := by
  rcases H with ⟨r1, τ1, ⟨ht, rfl, rfl⟩, rfl, rfl⟩ | ⟨_, ⟨rfl, hn, rfl⟩, _, rfl⟩
  · rcases M with ⟨-, rfl, rfl⟩ | ⟨hn, -⟩
    · refine ⟨by rw [su_nk _ _ _ (by decide), su_eq], fun _ => by rw [su_ni _ _ _ (by decide), su_ni _ _ _ (by decide), su_eq], RR.rel (RR.more (h.face (n' := n) (w' := w) (tc' := tc + 1) (mg' := mg) (pr' := pr) (h.1.fr ?_ ?_) ⟨?_, ?_, ?_, by omega, h.2.1.2.2.2.2⟩ ⟨?_, h.2.2.1.1.2.1, ?_⟩ ⟨su_eq _ _ _ _, ?_, ?_⟩ (by omega) ?_ ?_ (fun j h1 h2 h3 h4 => ?_)))⟩
      · rw [su_ni _ _ _ (by decide), su_ni _ _ _ (by decide), su_ni _ _ _ (by decide), su_ni _ _ _ (by decide)]
      · rw [su_ni _ _ _ (by decide), su_ni _ _ _ (by decide), su_ni _ _ _ (by decide), su_ni _ _ _ (by decide)]
      · rw [su_ni _ _ _ (by decide), su_ni _ _ _ (by decide), su_ni _ _ _ (by decide), su_eq]
      · rw [su_ni _ _ _ (by decide), su_ni _ _ _ (by decide), su_ni _ _ _ (by decide), su_nk _ _ _ (by decide)]; exact h.2.1.2.1
      · rw [su_ni _ _ _ (by decide), su_ni _ _ _ (by decide), su_ni _ _ _ (by decide), su_nk _ _ _ (by decide)]; exact h.2.1.2.2.1
      · rw [su_nk _ _ _ (by decide), su_nk _ _ _ (by decide), su_ni _ _ _ (by decide), su_ni _ _ _ (by decide)]; exact h.2.2.1.1.1
      · rw [su_ni _ _ _ (by decide), su_ni _ _ _ (by decide), su_ni _ _ _ (by decide), su_ni _ _ _ (by decide)]; exact h.2.2.1.1.2.2
      · rw [su_nk _ _ _ (by decide), su_nk _ _ _ (by decide), su_ni _ _ _ (by decide), su_ni _ _ _ (by decide)]; exact h.2.2.1.2.1.2.1
      · rw [su_nk _ _ _ (by decide), su_nk _ _ _ (by decide), su_ni _ _ _ (by decide), su_ni _ _ _ (by decide)]; exact h.2.2.1.2.1.2.2.1
      · rw [su_nk _ _ _ (by decide), su_nk _ _ _ (by decide), su_ni _ _ _ (by decide), su_ni _ _ _ (by decide)]
      · rw [su_nk _ _ _ (by decide), su_nk _ _ _ (by decide), su_ni _ _ _ (by decide), su_ni _ _ _ (by decide)]
      · rw [su_ni _ _ _ h2, su_ni _ _ _ h2, su_ni _ _ _ h4, su_ni _ _ _ (by omega)]
    · omega
  · rcases M with ⟨ht, -⟩ | ⟨-, e⟩
    · omega
    · exact ag_no h (by decide) (by decide) e
theorem J_setMargin (h : RR σ c n w tc mg pr tx nx nm wh wd kp loc)
    (H : (∃ r1 τ1, (inR x 101 ∧ r1 = nI mg ∧ τ1 = su σ 0 6 x) ∧ r = nI 0 ∧ τ = su τ1 96 0 r1) ∨ (∃ E, (E = xIA ∧ ¬ inR x 101 ∧ σ = τ) ∧ (E = xIA ∧ r = nI 1)))
    (M : (inR x 101 ∧ r5 = nI mg ∧ τ5 = su (su τ 89 0 (nI 0)) 89 4 x) ∨ (¬ inR x 101 ∧ τ5 = su τ 89 0 (nI 1))) : Agree r τ5 r5 c := by
  rcases H with ⟨r1, τ1, ⟨ht, rfl, rfl⟩, rfl, rfl⟩ | ⟨_, ⟨rfl, hn, rfl⟩, _, rfl⟩
  · rcases M with ⟨-, rfl, rfl⟩ | ⟨hn, -⟩
    · obtain ⟨v, hv, rfl⟩ := ht
      refine ⟨by rw [su_nk _ _ _ (by decide), su_eq], fun _ => by rw [su_ni _ _ _ (by decide), su_ni _ _ _ (by decide), su_eq], RR.rel (RR.more (h.face (n' := n) (w' := w) (tc' := tc) (mg' := v) (pr' := pr) (h.1.fr ?_ ?_) ⟨?_, ?_, ?_, h.2.1.2.2.2.1, by omega, h.2.1.2.2.2.2.2⟩ ⟨?_, h.2.2.1.1.2.1, ?_⟩ ⟨?_, su_eq _ _ _ _, ?_⟩ (Nat.le_refl _) ?_ ?_ (fun j h1 h2 h3 h4 => ?_)))⟩
      · rw [su_ni _ _ _ (by decide), su_ni _ _ _ (by decide), su_ni _ _ _ (by decide), su_ni _ _ _ (by decide)]
      · rw [su_ni _ _ _ (by decide), su_ni _ _ _ (by decide), su_ni _ _ _ (by decide), su_ni _ _ _ (by decide)]
      · rw [su_ni _ _ _ (by decide), su_ni _ _ _ (by decide), su_ni _ _ _ (by decide), su_nk _ _ _ (by decide)]; exact h.2.1.1
      · rw [su_ni _ _ _ (by decide), su_ni _ _ _ (by decide), su_ni _ _ _ (by decide), su_eq]
      · rw [su_ni _ _ _ (by decide), su_ni _ _ _ (by decide), su_ni _ _ _ (by decide), su_nk _ _ _ (by decide)]; exact h.2.1.2.2.1
      · rw [su_nk _ _ _ (by decide), su_nk _ _ _ (by decide), su_ni _ _ _ (by decide), su_ni _ _ _ (by decide)]; exact h.2.2.1.1.1
      · rw [su_ni _ _ _ (by decide), su_ni _ _ _ (by decide), su_ni _ _ _ (by decide), su_ni _ _ _ (by decide)]; exact h.2.2.1.1.2.2
      · rw [su_nk _ _ _ (by decide), su_nk _ _ _ (by decide), su_ni _ _ _ (by decide), su_ni _ _ _ (by decide)]; exact h.2.2.1.2.1.1
      · rw [su_nk _ _ _ (by decide), su_nk _ _ _ (by decide), su_ni _ _ _ (by decide), su_ni _ _ _ (by decide)]; exact h.2.2.1.2.1.2.2.1
      · rw [su_nk _ _ _ (by decide), su_nk _ _ _ (by decide), su_ni _ _ _ (by decide), su_ni _ _ _ (by decide)]
      · rw [su_nk _ _ _ (by decide), su_nk _ _ _ (by decide), su_ni _ _ _ (by decide), su_ni _ _ _ (by decide)]
      · rw [su_ni _ _ _ h2, su_ni _ _ _ h2, su_ni _ _ _ h4, su_ni _ _ _ (by omega)]
    · exact absurd ht hn
  · rcases M with ⟨ht, -⟩ | ⟨-, e⟩
    · exact absurd ht hn
    · exact ag_no h (by decide) (by decide) e
theorem J_setPrice (h : RR σ c n w tc mg pr tx nx nm wh wd kp loc)
    (H : (∃ r1 τ1, (inR x 101 ∧ r1 = nI pr ∧ τ1 = su σ 0 7 x) ∧ r = nI 0 ∧ τ = su τ1 96 0 r1) ∨ (∃ E, (E = xIA ∧ ¬ inR x 101 ∧ σ = τ) ∧ (E = xIA ∧ r = nI 1)))
    (M : (inR x 101 ∧ r5 = nI pr ∧ τ5 = su (su τ 89 0 (nI 0)) 89 5 x) ∨ (¬ inR x 101 ∧ τ5 = su τ 89 0 (nI 1))) : Agree r τ5 r5 c := by
  rcases H with ⟨r1, τ1, ⟨ht, rfl, rfl⟩, rfl, rfl⟩ | ⟨_, ⟨rfl, hn, rfl⟩, _, rfl⟩
  · rcases M with ⟨-, rfl, rfl⟩ | ⟨hn, -⟩
    · obtain ⟨v, hv, rfl⟩ := ht
      refine ⟨by rw [su_nk _ _ _ (by decide), su_eq], fun _ => by rw [su_ni _ _ _ (by decide), su_ni _ _ _ (by decide), su_eq], RR.rel (RR.more (h.face (n' := n) (w' := w) (tc' := tc) (mg' := mg) (pr' := v) (h.1.fr ?_ ?_) ⟨?_, ?_, ?_, h.2.1.2.2.2.1, h.2.1.2.2.2.2.1, by omega⟩ ⟨?_, h.2.2.1.1.2.1, ?_⟩ ⟨?_, ?_, su_eq _ _ _ _⟩ (Nat.le_refl _) ?_ ?_ (fun j h1 h2 h3 h4 => ?_)))⟩
      · rw [su_ni _ _ _ (by decide), su_ni _ _ _ (by decide), su_ni _ _ _ (by decide), su_ni _ _ _ (by decide)]
      · rw [su_ni _ _ _ (by decide), su_ni _ _ _ (by decide), su_ni _ _ _ (by decide), su_ni _ _ _ (by decide)]
      · rw [su_ni _ _ _ (by decide), su_ni _ _ _ (by decide), su_ni _ _ _ (by decide), su_nk _ _ _ (by decide)]; exact h.2.1.1
      · rw [su_ni _ _ _ (by decide), su_ni _ _ _ (by decide), su_ni _ _ _ (by decide), su_nk _ _ _ (by decide)]; exact h.2.1.2.1
      · rw [su_ni _ _ _ (by decide), su_ni _ _ _ (by decide), su_ni _ _ _ (by decide), su_eq]
      · rw [su_nk _ _ _ (by decide), su_nk _ _ _ (by decide), su_ni _ _ _ (by decide), su_ni _ _ _ (by decide)]; exact h.2.2.1.1.1
      · rw [su_ni _ _ _ (by decide), su_ni _ _ _ (by decide), su_ni _ _ _ (by decide), su_ni _ _ _ (by decide)]; exact h.2.2.1.1.2.2
      · rw [su_nk _ _ _ (by decide), su_nk _ _ _ (by decide), su_ni _ _ _ (by decide), su_ni _ _ _ (by decide)]; exact h.2.2.1.2.1.1
      · rw [su_nk _ _ _ (by decide), su_nk _ _ _ (by decide), su_ni _ _ _ (by decide), su_ni _ _ _ (by decide)]; exact h.2.2.1.2.1.2.1
      · rw [su_nk _ _ _ (by decide), su_nk _ _ _ (by decide), su_ni _ _ _ (by decide), su_ni _ _ _ (by decide)]
      · rw [su_nk _ _ _ (by decide), su_nk _ _ _ (by decide), su_ni _ _ _ (by decide), su_ni _ _ _ (by decide)]
      · rw [su_ni _ _ _ h2, su_ni _ _ _ h2, su_ni _ _ _ h4, su_ni _ _ _ (by omega)]
    · exact absurd ht hn
  · rcases M with ⟨ht, -⟩ | ⟨-, e⟩
    · exact absurd ht hn
    · exact ag_no h (by decide) (by decide) e
end JC
