/-! ===== learn of both ===== -/
section JL
variable {σ τ τ5 : sS} {c n : Nat} {w : Nat → Nat} {tc mg pr tx nx : Nat} {nm wh wd : Nat → Nat} {kp : Nat → Nat → Nat} {loc : Nat → Nat} {r r5 x y : Int32}
theorem RR.tongue (h : RR σ c n w tc mg pr tx nx nm wh wd kp loc) (ht : tc < 5) : RR (su (su σ 0 5 (nI (tc + 1))) 89 3 (nI (tc + 1))) c n w (tc + 1) mg pr tx nx nm wh wd kp loc := by
  refine h.face (n' := n) (w' := w) (tc' := tc + 1) (mg' := mg) (pr' := pr) (h.1.fr ?_ ?_) ⟨?_, ?_, ?_, by omega, h.2.1.2.2.2.2⟩ ⟨?_, h.2.2.1.1.2.1, ?_⟩ ⟨su_eq _ _ _ _, ?_, ?_⟩ (by omega) ?_ ?_ (fun j h1 h2 h3 h4 => ?_)
  · rw [su_ni _ _ _ (by decide), su_ni _ _ _ (by decide)]
  · rw [su_ni _ _ _ (by decide), su_ni _ _ _ (by decide)]
  · rw [su_ni _ _ _ (by decide), su_eq]
  · rw [su_ni _ _ _ (by decide), su_nk _ _ _ (by decide)]; exact h.2.1.2.1
  · rw [su_ni _ _ _ (by decide), su_nk _ _ _ (by decide)]; exact h.2.1.2.2.1
  · rw [su_nk _ _ _ (by decide), su_ni _ _ _ (by decide)]; exact h.2.2.1.1.1
  · rw [su_ni _ _ _ (by decide), su_ni _ _ _ (by decide)]; exact h.2.2.1.1.2.2
  · rw [su_nk _ _ _ (by decide), su_ni _ _ _ (by decide)]; exact h.2.2.1.2.1.2.1
  · rw [su_nk _ _ _ (by decide), su_ni _ _ _ (by decide)]; exact h.2.2.1.2.1.2.2.1
  · rw [su_nk _ _ _ (by decide), su_ni _ _ _ (by decide)]
  · rw [su_nk _ _ _ (by decide), su_ni _ _ _ (by decide)]
  · rw [su_ni _ _ _ h2, su_ni _ _ _ (by omega)]
theorem J_learn (h : RR σ c n w tc mg pr tx nx nm wh wd kp loc) (hc : c < 10000)
    (H : (∃ r1 τ1, (∃ least, least < 21 ∧ x = nI least ∧ tc < 5 ∧ fsw (σ 17) (-1) 30 0 < 30 ∧ (((lrn (fitk n w (cntN wh wd kp tx) (totN wh wd tx) tc least) (rc n)).1 < 3 ∧ r1 = -1 ∧ σ = τ1) ∨ (3 ≤ (lrn (fitk n w (cntN wh wd kp tx) (totN wh wd tx) tc least) (rc n)).1 ∧ r1 = nI tc ∧ Kept (su σ 0 5 (nI (tc + 1))) τ1 (fsw (σ 17) (-1) 30 0) nx tc (lrn (fitk n w (cntN wh wd kp tx) (totN wh wd tx) tc least) (rc n)).1 ((lrn (fitk n w (cntN wh wd kp tx) (totN wh wd tx) tc least) (rc n)).2.1 - (lrn (fitk n w (cntN wh wd kp tx) (totN wh wd tx) tc least) (rc n)).1) n w (cntN wh wd kp tx tc) (totN wh wd tx tc)))) ∧ r = nI 0 ∧ τ = su τ1 96 0 r1) ∨ (∃ E, (((E = xIA ∧ ¬ inR x 21) ∨ (E = xIS ∧ inR x 21 ∧ (tc = 5 ∨ fsw (σ 17) (-1) 30 0 = 30))) ∧ σ = τ) ∧ ((E = xIA ∧ r = nI 1) ∨ (E = xIS ∧ r = nI 2))))
    (M : (∃ least, least < 21 ∧ x = nI least ∧ tc < 5 ∧ tx < 30 ∧ (((lrn (fitk n w (cntN wh wd kp tx) (totN wh wd tx) tc least) (rc n)).1 < 3 ∧ r5 = -1 ∧ τ5 = su τ 89 0 (nI 0)) ∨ (3 ≤ (lrn (fitk n w (cntN wh wd kp tx) (totN wh wd tx) tc least) (rc n)).1 ∧ r5 = nI tc ∧ ∃ ρ, KeptM (su τ 89 0 (nI 0)) ρ tx nx tc (lrn (fitk n w (cntN wh wd kp tx) (totN wh wd tx) tc least) (rc n)).1 ((lrn (fitk n w (cntN wh wd kp tx) (totN wh wd tx) tc least) (rc n)).2.1 - (lrn (fitk n w (cntN wh wd kp tx) (totN wh wd tx) tc least) (rc n)).1) n w ∧ τ5 = su ρ 89 3 (nI (tc + 1))))) ∨ (¬ inR x 21 ∧ τ5 = su τ 89 0 (nI 1)) ∨ (inR x 21 ∧ (tc = 5 ∨ tx = 30) ∧ τ5 = su τ 89 0 (nI 2))) : Agree r τ5 r5 c := by
  have hnxc : nx ≤ c := h.2.2.2.2.2
  rcases H with ⟨r1, τ1, ⟨q, hq, hx, ht, hs, HK⟩, rfl, rfl⟩ | ⟨E, ⟨hE, rfl⟩, hr⟩
  · obtain ⟨htx, hs1⟩ := h.free hs
    rcases M with ⟨q2, hq2, hx2, -, -, MK⟩ | ⟨hno, -⟩ | ⟨-, hno, -⟩
    · obtain rfl := nI_inj (by omega) (by omega) (hx.symm.trans hx2)
      have hle := lrn_le (fitk n w (cntN wh wd kp tx) (totN wh wd tx) tc q) (rc n)
      generalize lrn (fitk n w (cntN wh wd kp tx) (totN wh wd tx) tc q) (rc n) = L at HK MK hle
      rcases HK with ⟨h3, rfl, rfl⟩ | ⟨h3, rfl, K⟩
      · rcases MK with ⟨-, rfl, rfl⟩ | ⟨h4, -⟩
        · exact ag_ok h (Agr.rf rfl) (fun _ _ => rfl)
        · omega
      · rcases MK with ⟨h4, -⟩ | ⟨-, rfl, ρ, K5, rfl⟩
        · omega
        · generalize fsw (σ 17) (-1) 30 0 = s at hs hs1 K
          obtain ⟨k1, k2, k3, k4, k5, k6, k7⟩ := K
          obtain ⟨m1, m2, m3, m4, m5, m6, m7⟩ := K5
          rw [su_ni _ _ _ (by decide)] at k1 k2 k3
          have g : ∀ j, j ≠ 89 → j ≠ 91 → j ≠ 92 → j ≠ 93 → j ≠ 94 → j ≠ 96 → (su ρ 89 3 (nI (tc + 1))) j = τ1 j := fun j h1 h2 h3 h4 h5 h6 => by rw [su_ni _ _ _ h1, m7 j h1 h2 h3 h4 h5, su_ni _ _ _ h1, su_ni _ _ _ h6]
          have g9 : ∀ j, 89 ≤ j → j < 96 → τ1 j = σ j := fun j h1 h2 => by rw [k7 j (by omega) (by omega) (by omega) (by omega) (by omega) (by omega) (by omega), su_ni _ _ _ (by omega)]
          have h0 := h.tongue ht
          refine ⟨by rw [su_nk _ _ _ (by decide), m6, upd_ne9 _ _ (by decide), upd_ne9 _ _ (by decide), su_eq], fun _ => by rw [su_ni _ _ _ (by decide), m7 96 (by decide) (by decide) (by decide) (by decide) (by decide), su_ni _ _ _ (by decide), su_eq], RR.rel (h0.keep (f := L.2.1 - L.1) (ln := L.1) (Nat.lt_succ_self tc) hs ?_ (by omega) htx (by omega) ?_ ?_ ?_ ?_ (fun p hp => ?_) ?_ ?_ ?_ ?_ (fun p hp => ?_) (fun i hi => ?_) ?_ ?_ (fun k e0 e6 e7 => ?_) (fun j a1 a2 a3 a4 a5 a6 a7 a8 a9 b1 b2 b3 b4 => ?_))⟩
          · rw [su_ni _ _ _ (by decide), su_ni _ _ _ (by decide)]; exact hs1
          · rw [g 17 (by decide) (by decide) (by decide) (by decide) (by decide) (by decide), k1, su_ni _ _ _ (by decide), su_ni _ _ _ (by decide)]
          · rw [g 18 (by decide) (by decide) (by decide) (by decide) (by decide) (by decide), k2, su_ni _ _ _ (by decide), su_ni _ _ _ (by decide)]
          · rw [g 19 (by decide) (by decide) (by decide) (by decide) (by decide) (by decide), k3, su_ni _ _ _ (by decide), su_ni _ _ _ (by decide)]
          · rw [g 16 (by decide) (by decide) (by decide) (by decide) (by decide) (by decide)]; exact k4
          · rw [g _ (by omega) (by omega) (by omega) (by omega) (by omega) (by omega)]; exact k5 p hp
          · exact k6.fr (g _ (by omega) (by omega) (by omega) (by omega) (by omega) (by omega)) (g _ (by omega) (by omega) (by omega) (by omega) (by omega) (by omega))
          · rw [su_ni _ _ _ (by decide), m1, su_ni _ _ _ (by decide), su_ni _ _ _ (by decide), g9 91 (by decide) (by decide), su_ni _ _ _ (by decide), su_ni _ _ _ (by decide)]
          · rw [su_ni _ _ _ (by decide), m2, su_ni _ _ _ (by decide), su_ni _ _ _ (by decide), g9 92 (by decide) (by decide), su_ni _ _ _ (by decide), su_ni _ _ _ (by decide)]
          · rw [su_ni _ _ _ (by decide), m3, su_ni _ _ _ (by decide), su_ni _ _ _ (by decide), g9 93 (by decide) (by decide), su_ni _ _ _ (by decide), su_ni _ _ _ (by decide)]
          · rw [su_ni _ _ _ (by decide)]; exact m4 p hp
          · rw [su_ni _ _ _ (by decide), m5 i hi, su_ni _ _ _ (by decide), su_ni _ _ _ (by decide), g9 94 (by decide) (by decide), su_ni _ _ _ (by decide), su_ni _ _ _ (by decide)]
          · rw [su_nk _ _ _ (by decide), m6, upd_ne9 _ _ (by decide), upd_eq9]
          · rw [su_nk _ _ _ (by decide), m6, upd_eq9]
          · by_cases e3 : k = 3
            · subst e3; rw [su_eq, su_eq]
            · rw [su_nk _ _ _ e3, su_nk _ _ _ e3, m6, upd_ne9 _ _ e7, upd_ne9 _ _ e6, su_nk _ _ _ e0, su_ni _ _ _ (by decide), g9 89 (by decide) (by decide), su_ni _ _ _ (by decide)]
          · rw [g j a8 a9 b1 b2 b3 b4, k7 j a1 a2 a3 a4 a5 a6 a7, su_ni _ _ _ a8]
    · exact absurd (inR_mk hq hx) hno
    · omega
  · have hfull := h.full
    rcases hE with ⟨rfl, h0⟩ | ⟨rfl, h0, h1⟩
    · obtain rfl : r = nI 1 := by
        rcases hr with ⟨-, e⟩ | ⟨e, -⟩
        · exact e
        · exact absurd e (by decide)
      rcases M with ⟨t, ht, hx, -⟩ | ⟨-, e⟩ | ⟨hp, -⟩
      · exact absurd (inR_mk ht hx) h0
      · exact ag_no h (by decide) (by decide) e
      · exact absurd hp h0
    · obtain rfl : r = nI 2 := by
        rcases hr with ⟨e, -⟩ | ⟨-, e⟩
        · exact absurd e (by decide)
        · exact e
      rcases M with ⟨t, ht, hx, hn, htx, -⟩ | ⟨hp, -⟩ | ⟨-, -, e⟩
      · rcases h1 with h1 | h1
        · omega
        · have := hfull.mp h1
          omega
      · exact absurd h0 hp
      · exact ag_no h (by decide) (by decide) e
end JL
