/-! ===== a call of both: the same answer, the relation again ===== -/
def Agree (r : Int32) (τ5 : sS) (r5 : Int32) (c : Nat) : Prop := τ5 89 0 = r ∧ (r = nI 0 → τ5 96 0 = r5) ∧ Rel τ5 (c + 1)
def Agr (σ τ : sS) : Prop := ∀ j, (j < 51 ∧ j ≠ 3 ∧ j ≠ 4) ∨ 89 ≤ j → τ j = σ j
theorem Agr.rf {σ τ : sS} (h : σ = τ) : Agr σ τ := fun _ _ => by rw [h]
theorem inR_mk {N : Nat} {x : Int32} {t : Nat} (ht : t < N) (hx : x = nI t) : inR x N := ⟨t, ht, hx⟩
section JS
variable {σ τ τ5 : sS} {c n : Nat} {w : Nat → Nat} {tc mg pr tx nx : Nat} {nm wh wd : Nat → Nat} {kp : Nat → Nat → Nat} {loc : Nat → Nat} {r r5 x y : Int32} {E0 : String}
theorem RR.more (h : RR σ c n w tc mg pr tx nx nm wh wd kp loc) : RR σ (c + 1) n w tc mg pr tx nx nm wh wd kp loc := ⟨h.1, h.2.1, h.2.2.1, h.2.2.2.1, h.2.2.2.2.1, Nat.le_succ_of_le h.2.2.2.2.2⟩
theorem RR.rel (h : RR σ c n w tc mg pr tx nx nm wh wd kp loc) : Rel σ c := ⟨n, w, tc, mg, pr, tx, nx, nm, wh, wd, kp, loc, h⟩
/-- after a call that changes nothing that is kept: the relation -/
theorem ag_rel (h : RR σ c n w tc mg pr tx nx nm wh wd kp loc) {τ1 : sS} {r1 v : Int32} (hA : Agr σ τ1) (e5 : ∀ j, j ≠ 95 → τ5 j = su (su τ1 96 0 r1) 89 0 v j) : RR τ5 c n w tc mg pr tx nx nm wh wd kp loc := by
  refine h.fr (fun k hk => ?_) (fun j h1 h2 => ?_) (fun j h1 h2 h3 => ?_)
  · rw [e5 89 (by decide), su_nk _ _ _ hk, su_ni _ _ _ (by decide), hA 89 (Or.inr (by decide))]
  · rw [e5 j (by omega), su_ni _ _ _ (by omega), su_ni _ _ _ (by omega), hA j (Or.inr (by omega))]
  · rw [e5 j (by omega), su_ni _ _ _ (by omega), su_ni _ _ _ (by omega), hA j (Or.inl ⟨h1, h2, h3⟩)]
theorem ag_ok (h : RR σ c n w tc mg pr tx nx nm wh wd kp loc) {τ1 : sS} {r1 : Int32} (hA : Agr σ τ1) (e5 : ∀ j, j ≠ 95 → τ5 j = su (su τ1 96 0 r1) 89 0 (nI 0) j) : Agree (nI 0) τ5 r1 c :=
  ⟨by rw [e5 89 (by decide), su_eq], fun _ => by rw [e5 96 (by decide), su_ni _ _ _ (by decide), su_eq], (ag_rel h hA e5).more.rel⟩
theorem ag_no (h : RR σ c n w tc mg pr tx nx nm wh wd kp loc) {v : Nat} (hv : 0 < v) (hv2 : v < 100) (e5 : τ5 = su σ 89 0 (nI v)) : Agree (nI v) τ5 r5 c := by
  subst e5
  refine ⟨su_eq _ _ _ _, fun e => absurd ((nI_eq (by omega) (by omega)).mp e) (by omega), RR.rel (RR.more (h.fr (fun k hk => su_nk _ _ _ hk) (fun j h1 h2 => su_ni _ _ _ (by omega)) (fun j h1 _ _ => su_ni _ _ _ (by omega))))⟩
/-- a place that must be below N -/
theorem J1 (h : RR σ c n w tc mg pr tx nx nm wh wd kp loc) {N : Nat} (hN : N ≤ 1000) (F : Nat → Int32) (A : sS → Prop) (hA : ∀ τ1, A τ1 → Agr σ τ1)
    (H : (∃ r1 τ1, ((∃ t, t < N ∧ x = nI t ∧ r1 = F t) ∧ A τ1) ∧ r = nI 0 ∧ τ = su τ1 96 0 r1) ∨ (∃ E, (E = E0 ∧ ¬ inR x N ∧ σ = τ) ∧ (E = E0 ∧ r = nI 1)))
    (M : (∃ t, t < N ∧ x = nI t ∧ r5 = F t ∧ τ5 = su τ 89 0 (nI 0)) ∨ (¬ inR x N ∧ τ5 = su τ 89 0 (nI 1))) : Agree r τ5 r5 c := by
  rcases H with ⟨r1, τ1, ⟨⟨t, ht, hx, rfl⟩, hA1⟩, rfl, rfl⟩ | ⟨_, ⟨rfl, hn, rfl⟩, _, rfl⟩
  · rcases M with ⟨t2, ht2, hx2, rfl, rfl⟩ | ⟨hn, -⟩
    · obtain rfl := nI_inj (by omega) (by omega) (hx.symm.trans hx2)
      exact ag_ok h (hA _ hA1) (fun _ _ => rfl)
    · exact absurd (inR_mk ht hx) hn
  · rcases M with ⟨t2, ht2, hx2, -⟩ | ⟨-, e⟩
    · exact absurd (inR_mk ht2 hx2) hn
    · exact ag_no h (by decide) (by decide) e
theorem J2 (h : RR σ c n w tc mg pr tx nx nm wh wd kp loc) (F : Nat → Nat → Int32)
    (H : (∃ r1 τ1, ((∃ t k, t < tc ∧ k < 36 ∧ x = nI t ∧ y = nI k ∧ r1 = F t k) ∧ σ = τ1) ∧ r = nI 0 ∧ τ = su τ1 96 0 r1) ∨ (∃ E, (E = E0 ∧ ¬ (inR x tc ∧ inR y 36) ∧ σ = τ) ∧ (E = E0 ∧ r = nI 1)))
    (M : (∃ t k, t < tc ∧ k < 36 ∧ x = nI t ∧ y = nI k ∧ r5 = F t k ∧ τ5 = su τ 89 0 (nI 0)) ∨ (¬ (inR x tc ∧ inR y 36) ∧ τ5 = su τ 89 0 (nI 1))) : Agree r τ5 r5 c := by
  have htc : tc ≤ 5 := h.2.1.2.2.2.1
  rcases H with ⟨r1, τ1, ⟨⟨t, k, ht, hk, hx, hy, rfl⟩, hA1⟩, rfl, rfl⟩ | ⟨_, ⟨rfl, hn, rfl⟩, _, rfl⟩
  · rcases M with ⟨t2, k2, ht2, hk2, hx2, hy2, rfl, rfl⟩ | ⟨hn, -⟩
    · obtain rfl := nI_inj (by omega) (by omega) (hx.symm.trans hx2)
      obtain rfl := nI_inj (by omega) (by omega) (hy.symm.trans hy2)
      exact ag_ok h (Agr.rf hA1) (fun _ _ => rfl)
    · exact absurd ⟨inR_mk ht hx, inR_mk hk hy⟩ hn
  · rcases M with ⟨t2, k2, ht2, hk2, hx2, hy2, -⟩ | ⟨-, e⟩
    · exact absurd ⟨inR_mk ht2 hx2, inR_mk hk2 hy2⟩ hn
    · exact ag_no h (by decide) (by decide) e
/-- a condition P of the state alone, its answer V -/
theorem J4 (h : RR σ c n w tc mg pr tx nx nm wh wd kp loc) {V : Int32}
    (H : (∃ r1 τ1, (0 < tc ∧ r1 = V ∧ ∀ j, (j < 51 ∨ 89 ≤ j) → τ1 j = σ j) ∧ r = nI 0 ∧ τ = su τ1 96 0 r1) ∨ (∃ E, (E = E0 ∧ tc = 0 ∧ σ = τ) ∧ (E = E0 ∧ r = nI 1)))
    (M : (0 < tc ∧ r5 = V ∧ ∀ j, j ≠ 95 → τ5 j = (su τ 89 0 (nI 0)) j) ∨ (tc = 0 ∧ τ5 = su τ 89 0 (nI 1))) : Agree r τ5 r5 c := by
  rcases H with ⟨r1, τ1, ⟨hp, rfl, hA⟩, rfl, rfl⟩ | ⟨_, ⟨rfl, hn, rfl⟩, _, rfl⟩
  · rcases M with ⟨-, rfl, e⟩ | ⟨hn, -⟩
    · exact ag_ok h (fun j hj => hA j (hj.imp (fun h => h.1) id)) e
    · omega
  · rcases M with ⟨hp, -⟩ | ⟨-, e⟩
    · omega
    · exact ag_no h (by decide) (by decide) e
theorem J5 (h : RR σ c n w tc mg pr tx nx nm wh wd kp loc) {V : Int32}
    (H : (∃ r1 τ1, (0 < tc ∧ n ≤ 5 ∧ r1 = V ∧ ∀ j, (j < 51 ∨ 89 ≤ j) → τ1 j = σ j) ∧ r = nI 0 ∧ τ = su τ1 96 0 r1) ∨ (∃ E, (E = E0 ∧ (tc = 0 ∨ 5 < n) ∧ σ = τ) ∧ (E = E0 ∧ r = nI 1)))
    (M : (0 < tc ∧ n ≤ 5 ∧ r5 = V ∧ ∀ j, j ≠ 95 → τ5 j = (su τ 89 0 (nI 0)) j) ∨ ((tc = 0 ∨ 5 < n) ∧ τ5 = su τ 89 0 (nI 1))) : Agree r τ5 r5 c := by
  rcases H with ⟨r1, τ1, ⟨hp, hp2, rfl, hA⟩, rfl, rfl⟩ | ⟨_, ⟨rfl, hn, rfl⟩, _, rfl⟩
  · rcases M with ⟨-, -, rfl, e⟩ | ⟨hn, -⟩
    · exact ag_ok h (fun j hj => hA j (hj.imp (fun h => h.1) id)) e
    · omega
  · rcases M with ⟨hp, hp2, -⟩ | ⟨-, e⟩
    · omega
    · exact ag_no h (by decide) (by decide) e
theorem J6 (h : RR σ c n w tc mg pr tx nx nm wh wd kp loc) (F : Nat → Int32) (hrc : rc n ≤ 1000)
    (H : (∃ r1 τ1, (0 < tc ∧ (∃ k, k < rc n ∧ x = nI k ∧ r1 = F k) ∧ ∀ j, (j < 51 ∨ 89 ≤ j) → τ1 j = σ j) ∧ r = nI 0 ∧ τ = su τ1 96 0 r1) ∨ (∃ E, (((E = xIS ∧ tc = 0) ∨ (E = xIO ∧ 0 < tc ∧ ¬ inR x (rc n))) ∧ σ = τ) ∧ ((E = xIS ∧ r = nI 1) ∨ (E = xIO ∧ r = nI 2))))
    (M : (0 < tc ∧ (∃ k, k < rc n ∧ x = nI k ∧ r5 = F k) ∧ ∀ j, j ≠ 95 → τ5 j = (su τ 89 0 (nI 0)) j) ∨ (tc = 0 ∧ τ5 = su τ 89 0 (nI 1)) ∨ (0 < tc ∧ ¬ inR x (rc n) ∧ τ5 = su τ 89 0 (nI 2))) : Agree r τ5 r5 c := by
  rcases H with ⟨r1, τ1, ⟨hp, ⟨k, hk, hx, rfl⟩, hA⟩, rfl, rfl⟩ | ⟨E, ⟨hE, rfl⟩, hr⟩
  · rcases M with ⟨-, ⟨k2, hk2, hx2, rfl⟩, e⟩ | ⟨hn, -⟩ | ⟨-, hn, -⟩
    · obtain rfl := nI_inj (by omega) (by omega) (hx.symm.trans hx2)
      exact ag_ok h (fun j hj => hA j (hj.imp (fun h => h.1) id)) e
    · omega
    · exact absurd (inR_mk hk hx) hn
  · rcases hE with ⟨rfl, h0⟩ | ⟨rfl, h0, h1⟩
    · obtain rfl : r = nI 1 := by
        rcases hr with ⟨-, e⟩ | ⟨e, -⟩
        · exact e
        · exact absurd e (by decide)
      rcases M with ⟨hp, -⟩ | ⟨-, e⟩ | ⟨hp, -⟩
      · omega
      · exact ag_no h (by decide) (by decide) e
      · omega
    · obtain rfl : r = nI 2 := by
        rcases hr with ⟨e, -⟩ | ⟨-, e⟩
        · exact absurd e (by decide)
        · exact e
      rcases M with ⟨-, ⟨k2, hk2, hx2, -⟩, -⟩ | ⟨hp, -⟩ | ⟨-, -, e⟩
      · exact absurd (inR_mk hk2 hx2) h1
      · omega
      · exact ag_no h (by decide) (by decide) e
theorem J_tongueOf (h : RR σ c n w tc mg pr tx nx nm wh wd kp loc)
    (H : (∃ r1 τ1, (¬ x < 0 ∧ fsw (σ 17) x 30 0 < 30 ∧ r1 = σ 18 (fsw (σ 17) x 30 0) ∧ σ = τ1) ∧ r = nI 0 ∧ τ = su τ1 96 0 r1) ∨ (∃ E, (E = xNS ∧ (x < 0 ∨ fsw (σ 17) x 30 0 = 30) ∧ σ = τ) ∧ (E = xNS ∧ r = nI 1)))
    (M : (∃ s, slt (τ 91) x tx = s + 1 ∧ s < tx ∧ r5 = nI (wh s) ∧ τ5 = su τ 89 0 (nI 0)) ∨ (slt (τ 91) x tx = 0 ∧ τ5 = su τ 89 0 (nI 1))) : Agree r τ5 r5 c := by
  have hf := h.find x
  rcases H with ⟨r1, τ1, ⟨h0, h1, rfl, rfl⟩, rfl, rfl⟩ | ⟨_, ⟨rfl, hn, rfl⟩, _, rfl⟩
  · rw [su_ni _ _ _ (by decide)] at M
    rcases hf with ⟨k, hk, -, hs, hw, -⟩ | ⟨-, hno⟩
    · rcases M with ⟨s, es, -, rfl, rfl⟩ | ⟨es, -⟩
      · obtain rfl : k = s := by omega
        rw [hw, (h.2.2.2.2.1.2.1 k hk).2.2.1]
        exact ag_ok h (Agr.rf rfl) (fun _ _ => rfl)
      · omega
    · rcases hno with hno | hno
      · exact absurd hno h0
      · omega
  · rcases hf with ⟨k, hk, -, hs, hw, hx0⟩ | ⟨hs, -⟩
    · have := (h.2.2.2.2.1.2.1 k hk).1
      rcases hn with hn | hn
      · exact absurd hn hx0
      · omega
    · rcases M with ⟨s, es, -⟩ | ⟨-, e⟩
      · omega
      · exact ag_no h (by decide) (by decide) e
end JS
