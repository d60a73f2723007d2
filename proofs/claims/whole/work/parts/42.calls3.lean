/-! ===== teach, withdraw, learn of both ===== -/
section JT
variable {σ τ τ5 : sS} {c n : Nat} {w : Nat → Nat} {tc mg pr tx nx : Nat} {nm wh wd : Nat → Nat} {kp : Nat → Nat → Nat} {loc : Nat → Nat} {r r5 x y : Int32}
theorem RR.free (h : RR σ c n w tc mg pr tx nx nm wh wd kp loc) (hs : fsw (σ 17) (-1) 30 0 < 30) : tx < 30 ∧ σ 17 (fsw (σ 17) (-1) 30 0) = -1 := by
  have h1 := h.full
  have h2 := h.tx_le
  refine ⟨?_, fsw_at _ _ 30 0 (by omega)⟩
  by_cases e : tx = 30
  · have := h1.mpr e
    omega
  · omega
theorem J_teach (h : RR σ c n w tc mg pr tx nx nm wh wd kp loc) (hc : c < 10000)
    (H : (∃ r1 τ1, (∃ t, t < tc ∧ x = nI t ∧ 0 < n ∧ fsw (σ 17) (-1) 30 0 < 30 ∧ r1 = nI nx ∧ Kept σ τ1 (fsw (σ 17) (-1) 30 0) nx t (rc n) 0 n w (cntN wh wd kp tx t) (totN wh wd tx t)) ∧ r = nI 0 ∧ τ = su τ1 96 0 r1) ∨ (∃ E, (((E = xIO ∧ ¬ inR x tc) ∨ (E = xIS ∧ inR x tc ∧ (n = 0 ∨ fsw (σ 17) (-1) 30 0 = 30))) ∧ σ = τ) ∧ ((E = xIO ∧ r = nI 1) ∨ (E = xIS ∧ r = nI 2))))
    (M : (∃ t, t < tc ∧ x = nI t ∧ 0 < n ∧ tx < 30 ∧ r5 = nI nx ∧ KeptM (su τ 89 0 (nI 0)) τ5 tx nx t (rc n) 0 n w) ∨ (¬ inR x tc ∧ τ5 = su τ 89 0 (nI 1)) ∨ (inR x tc ∧ (n = 0 ∨ tx = 30) ∧ τ5 = su τ 89 0 (nI 2))) : Agree r τ5 r5 c := by
  have htc : tc ≤ 5 := h.2.1.2.2.2.1
  have hnxc : nx ≤ c := h.2.2.2.2.2
  rcases H with ⟨r1, τ1, ⟨t, ht, hx, hn, hs, rfl, K⟩, rfl, rfl⟩ | ⟨E, ⟨hE, rfl⟩, hr⟩
  · obtain ⟨htx, hs1⟩ := h.free hs
    rcases M with ⟨t2, ht2, hx2, -, -, rfl, K5⟩ | ⟨hno, -⟩ | ⟨-, hno, -⟩
    · obtain rfl := nI_inj (by omega) (by omega) (hx.symm.trans hx2)
      generalize fsw (σ 17) (-1) 30 0 = s at hs hs1 K
      obtain ⟨k1, k2, k3, k4, k5, k6, k7⟩ := K
      obtain ⟨m1, m2, m3, m4, m5, m6, m7⟩ := K5
      have g : ∀ j, j ≠ 89 → j ≠ 91 → j ≠ 92 → j ≠ 93 → j ≠ 94 → j ≠ 96 → τ5 j = τ1 j := fun j h1 h2 h3 h4 h5 h6 => by rw [m7 j h1 h2 h3 h4 h5, su_ni _ _ _ h1, su_ni _ _ _ h6]
      have g9 : ∀ j, 89 ≤ j → j < 96 → τ1 j = σ j := fun j h1 h2 => k7 j (by omega) (by omega) (by omega) (by omega) (by omega) (by omega) (by omega)
      have g89 : ∀ k, k ≠ 0 → k ≠ 6 → k ≠ 7 → τ5 89 k = σ 89 k := fun k h0 h6 h7 => by rw [m6, upd_ne9 _ _ h7, upd_ne9 _ _ h6, su_nk _ _ _ h0, su_ni _ _ _ (by decide), g9 89 (by decide) (by decide)]
      refine ⟨by rw [m6, upd_ne9 _ _ (by decide), upd_ne9 _ _ (by decide), su_eq], fun _ => by rw [m7 96 (by decide) (by decide) (by decide) (by decide) (by decide), su_ni _ _ _ (by decide), su_eq], RR.rel (h.keep (f := 0) ht hs hs1 (Nat.le_of_eq (Nat.zero_add _)) htx (by omega) ?_ ?_ ?_ ?_ (fun p hp => ?_) ?_ ?_ ?_ ?_ m4 (fun i hi => ?_) ?_ ?_ g89 (fun j a1 a2 a3 a4 a5 a6 a7 a8 a9 b1 b2 b3 b4 => ?_))⟩
      · rw [g 17 (by decide) (by decide) (by decide) (by decide) (by decide) (by decide)]; exact k1
      · rw [g 18 (by decide) (by decide) (by decide) (by decide) (by decide) (by decide)]; exact k2
      · rw [g 19 (by decide) (by decide) (by decide) (by decide) (by decide) (by decide)]; exact k3
      · rw [g 16 (by decide) (by decide) (by decide) (by decide) (by decide) (by decide)]; exact k4
      · rw [g _ (by omega) (by omega) (by omega) (by omega) (by omega) (by omega)]; exact k5 p hp
      · exact k6.fr (g _ (by omega) (by omega) (by omega) (by omega) (by omega) (by omega)) (g _ (by omega) (by omega) (by omega) (by omega) (by omega) (by omega))
      · rw [m1, su_ni _ _ _ (by decide), su_ni _ _ _ (by decide), g9 91 (by decide) (by decide)]
      · rw [m2, su_ni _ _ _ (by decide), su_ni _ _ _ (by decide), g9 92 (by decide) (by decide)]
      · rw [m3, su_ni _ _ _ (by decide), su_ni _ _ _ (by decide), g9 93 (by decide) (by decide)]
      · rw [m5 i hi, su_ni _ _ _ (by decide), su_ni _ _ _ (by decide), g9 94 (by decide) (by decide)]
      · rw [m6, upd_ne9 _ _ (by decide), upd_eq9]
      · rw [m6, upd_eq9]
      · rw [g j a8 a9 b1 b2 b3 b4, k7 j a1 a2 a3 a4 a5 a6 a7]
    · exact absurd (inR_mk ht hx) hno
    · omega
  · have hfull := h.full
    rcases hE with ⟨rfl, h0⟩ | ⟨rfl, h0, h1⟩
    · obtain rfl : r = nI 1 := by
        rcases hr with ⟨-, e⟩ | ⟨e, -⟩
        · exact e
        · exact absurd e (by decide)
      rcases M with ⟨t, ht, hx, -⟩ | ⟨-, e⟩ | ⟨hp, -⟩
      · exact absurd (inR_mk ht hx) h0
      · exact ag_no h (by decide) (by decide) e
      · exact absurd hp h0
    · obtain rfl : r = nI 2 := by
        rcases hr with ⟨e, -⟩ | ⟨-, e⟩
        · exact absurd e (by decide)
        · exact e
      rcases M with ⟨t, ht, hx, hn, htx, -⟩ | ⟨hp, -⟩ | ⟨-, -, e⟩
      · rcases h1 with h1 | h1
        · omega
        · have := hfull.mp h1
          omega
      · exact absurd h0 hp
      · exact ag_no h (by decide) (by decide) e
/-- what withdraw's contract asks of the shelf, at the relation -/
theorem RR.hW (h : RR σ c n w tc mg pr tx nx nm wh wd kp loc) {k : Nat} (hk : k < tx) (hw : fsw (σ 17) x 30 0 = loc k) : σ 18 (fsw (σ 17) x 30 0) = nI (wh k) ∧ wh k < 5 ∧ σ 19 (fsw (σ 17) x 30 0) = nI (wd k) ∧ wd k ≤ 17 ∧ (∀ p, p < wd k → σ (21 + fsw (σ 17) x 30 0) p = nI (kp k p) ∧ kp k p < 36) ∧ (∀ r, cntF (kp k) (wd k) r ≤ cntN wh wd kp tx (wh k) r) ∧ wd k ≤ totN wh wd tx (wh k) := by
  obtain ⟨a1, a2, a3, a4, a5, a6, a7⟩ := h.2.2.2.2.1.2.1 k hk
  obtain ⟨b1, b2, b3, b4⟩ := h.2.2.1.2.2.2.2.2.2 k hk
  rw [hw]
  refine ⟨a3, b2.2, a4, b3.2, fun p hp => ⟨a5 p hp, (b4 p hp).2⟩, fun r => ?_, ?_⟩
  · rw [cntN_drop wh wd kp hk, if_pos rfl]; omega
  · rw [totN_drop wh wd hk, if_pos rfl]; omega
theorem J_withdraw (h : RR σ c n w tc mg pr tx nx nm wh wd kp loc) {t ln : Nat} {rr : Nat → Nat} (hk : ∀ k, k < tx → x = nI (nm k) → t = wh k ∧ ln = wd k ∧ rr = kp k)
    (H : (∃ r1 τ1, (¬ x < 0 ∧ fsw (σ 17) x 30 0 < 30 ∧ r1 = nI ln ∧ τ1 17 = upd (σ 17) (fsw (σ 17) x 30 0) (-1) ∧ Tl τ1 (6 + t) (11 + t) (fun r => cntN wh wd kp tx t r - cntF rr ln r) (totN wh wd tx t - ln) ∧ ∀ j, j ≠ 17 → j ≠ 6 + t → j ≠ 11 + t → τ1 j = σ j) ∧ r = nI 0 ∧ τ = su τ1 96 0 r1) ∨ (∃ E, (E = xNS ∧ (x < 0 ∨ fsw (σ 17) x 30 0 = 30) ∧ σ = τ) ∧ (E = xNS ∧ r = nI 1)))
    (M : (∃ s, slt (τ 91) x tx = s + 1 ∧ s < tx ∧ r5 = nI (wd s) ∧ Shft τ τ5 s tx) ∨ (slt (τ 91) x tx = 0 ∧ τ5 = su τ 89 0 (nI 1))) : Agree r τ5 r5 c := by
  have hf := h.find x
  rcases H with ⟨r1, τ1, ⟨h0, h1, rfl, k1, k2, k3⟩, rfl, rfl⟩ | ⟨_, ⟨rfl, hn, rfl⟩, _, rfl⟩
  · rcases hf with ⟨k, hkt, hx, hs, hw, -⟩ | ⟨-, hno⟩
    · obtain ⟨rfl, rfl, rfl⟩ := hk k hkt hx
      have hwh : wh k < 5 := (h.2.2.1.2.2.2.2.2.2 k hkt).2.1.2
      have g9 : ∀ j, 89 ≤ j → j < 96 → τ1 j = σ j := fun j h1 h2 => k3 j (by omega) (by omega) (by omega)
      rw [su_ni _ _ _ (by decide), g9 91 (by decide) (by decide)] at M
      rcases M with ⟨s, es, -, rfl, m1, m2, m3⟩ | ⟨es, -⟩
      · obtain rfl : k = s := by omega
        have g : ∀ j, j ≠ 89 → j ≠ 91 → j ≠ 92 → j ≠ 93 → j ≠ 94 → j ≠ 96 → τ5 j = τ1 j := fun j h1 h2 h3 h4 h5 h6 => by rw [m3 j h1 h2 h3 h4 h5, su_ni _ _ _ h6]
        rw [su_ni _ _ _ (by decide), g9 89 (by decide) (by decide)] at m1
        refine ⟨by rw [m1, upd_ne9 _ _ (by decide), upd_eq9], fun _ => by rw [m3 96 (by decide) (by decide) (by decide) (by decide) (by decide), su_eq], RR.rel (h.drop hkt ?_ ?_ ?_ (fun q hq hq6 => ?_) (fun q hq => ?_) (fun j a1 a2 a3 a4 a5 a6 a7 a8 a9 => ?_))⟩
        · rw [g 17 (by decide) (by decide) (by decide) (by decide) (by decide) (by decide), k1, hw]
        · exact k2.fr (g _ (by omega) (by omega) (by omega) (by omega) (by omega) (by omega)) (g _ (by omega) (by omega) (by omega) (by omega) (by omega) (by omega))
        · rw [m1, upd_eq9]
        · rw [m1, upd_ne9 _ _ hq6, upd_ne9 _ _ hq]
        · have m2 := m2 q hq
          rw [su_ni _ _ _ (by decide), su_ni _ _ _ (by decide), su_ni _ _ _ (by decide), su_ni _ _ _ (by decide), g9 91 (by decide) (by decide), g9 92 (by decide) (by decide), g9 93 (by decide) (by decide), g9 94 (by decide) (by decide)] at m2
          exact m2
        · rw [g j a4 a5 a6 a7 a8 a9, k3 j a1 a2 a3]
      · omega
    · rcases hno with hno | hno
      · exact absurd hno h0
      · omega
  · rcases hf with ⟨k, hkt, -, hs, hw, hx0⟩ | ⟨hs, -⟩
    · have := (h.2.2.2.2.1.2.1 k hkt).1
      rcases hn with hn | hn
      · exact absurd hn hx0
      · omega
    · rcases M with ⟨s, es, -⟩ | ⟨-, e⟩
      · omega
      · exact ag_no h (by decide) (by decide) e
end JT
