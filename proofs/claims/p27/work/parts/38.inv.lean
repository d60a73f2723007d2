/-! ===== what holds between two turns of the law: the class's numbers, and that the counts of a tongue are together its total ===== -/
def un {α : Type} (f : Nat → α) (a : Nat) (v : α) : Nat → α := fun k => if k = a then v else f k
theorem un_eq {α : Type} (f : Nat → α) (a : Nat) (v : α) : un f a v a = v := if_pos rfl
theorem un_ne {α : Type} (f : Nat → α) {a k : Nat} (v : α) (h : k ≠ a) : un f a v k = f k := if_neg h
theorem upd_eq9 (f : Nat → Int32) (a : Nat) (v : Int32) : upd f a v a = v := if_pos rfl
theorem upd_ne9 (f : Nat → Int32) {a k : Nat} (v : Int32) (h : k ≠ a) : upd f a v k = f k := if_neg h
theorem nI_inj {a b : Nat} (ha : a ≤ 10000) (hb : b ≤ 10000) (h : nI a = nI b) : a = b := (nI_eq (by omega) (by omega)).mp h
theorem rc_0 {n : Nat} (h : n = 0) : rc n = 0 := if_pos h
theorem rc_1 {n : Nat} (h : ¬ n = 0) : rc n = n + 1 := if_neg h
theorem bv_of {b : Nat} (h : 0 < b) : nI (b - 1) = bv b := by
  cases b with
  | zero => omega
  | succ t => rfl
def Inv (σ : sS) (n : Nat) (w : Nat → Nat) (tc pr tx nx : Nat) (ct : Nat → Nat → Nat) (mt : Nat → Nat) : Prop :=
  Sp σ n w ∧ Xs σ tc 3 pr ∧ Ta σ ct mt ∧ (∀ t, t < 5 → sm (ct t) 36 = mt t ∧ mt t ≤ 17 * tx ∧ ∀ r, ct t r ≤ 17 * tx) ∧ σ 16 4 = nI nx ∧ occ (σ 17) = tx ∧ ∀ s, s < 30 → σ 17 s = -1 ∨ ∃ m, m < nx ∧ σ 17 s = nI m
section InvS
variable {σ τ τ2 : sS} {n : Nat} {w : Nat → Nat} {tc pr tx nx : Nat} {ct : Nat → Nat → Nat} {mt : Nat → Nat}
theorem Inv.S (h : Inv σ n w tc pr tx nx ct mt) : Sp σ n w := h.1
theorem Inv.X (h : Inv σ n w tc pr tx nx ct mt) : Xs σ tc 3 pr := h.2.1
theorem Inv.T (h : Inv σ n w tc pr tx nx ct mt) : Ta σ ct mt := h.2.2.1
theorem Inv.tx_le (h : Inv σ n w tc pr tx nx ct mt) : tx ≤ 30 := by
  have h1 : occ (σ 17) ≤ 30 * 1 := sm_le (B := 1) 30 (fun k _ => by split <;> omega)
  rw [h.2.2.2.2.2.1] at h1
  omega
/-- what the cutter, the spelled text's tally do doesn't matter -/
theorem Inv.fr (h : Inv σ n w tc pr tx nx ct mt) (e : ∀ j, j < 51 → τ j = σ j) : Inv τ n w tc pr tx nx ct mt := by
  obtain ⟨h1, h2, h3, h4, h5, h6, h7⟩ := h
  exact ⟨h1.fr (e 1 (by decide)) (e 2 (by decide)), h2.fr (e 0 (by decide)), h3.fr (fun j _ h => e j (by omega)), h4, by rw [e 16 (by decide)]; exact h5, by rw [e 17 (by decide)]; exact h6, by rw [e 17 (by decide)]; exact h7⟩
theorem Inv.spell (h : Inv σ n w tc pr tx nx ct mt) {v : Nat} (hv : v < 6) (hn : n < 16) : Inv (su (su σ 2 n (nI v)) 1 1 (nI (n + 1))) (n + 1) (un w n v) tc pr tx nx ct mt := by
  obtain ⟨h1, h2, h3, h4, h5, h6, h7⟩ := h
  refine ⟨⟨su_eq _ _ _ _, by omega, fun k hk => ?_⟩, h2.fr (by rw [su_ni _ _ _ (by decide), su_ni _ _ _ (by decide)]), h3.fr (fun j a b => by rw [su_ni _ _ _ (by omega), su_ni _ _ _ (by omega)]), h4, by rw [su_ni _ _ _ (by decide), su_ni _ _ _ (by decide)]; exact h5, by rw [su_ni _ _ _ (by decide), su_ni _ _ _ (by decide)]; exact h6, by rw [su_ni _ _ _ (by decide), su_ni _ _ _ (by decide)]; exact h7⟩
  rw [su_ni _ _ _ (by decide)]
  by_cases ek : k = n
  · subst ek
    rw [su_eq, un_eq]
    exact ⟨rfl, hv⟩
  · rw [su_nk _ _ _ ek, un_ne _ _ ek]
    exact h1.2.2 k (by omega)
theorem Inv.clear (h : Inv σ n w tc pr tx nx ct mt) : Inv (su σ 1 1 (nI 0)) 0 w tc pr tx nx ct mt := by
  obtain ⟨h1, h2, h3, h4, h5, h6, h7⟩ := h
  exact ⟨⟨su_eq _ _ _ _, by omega, fun k hk => by omega⟩, h2.fr (su_ni _ _ _ (by decide)), h3.fr (fun j a b => su_ni _ _ _ (by omega)), h4, by rw [su_ni _ _ _ (by decide)]; exact h5, by rw [su_ni _ _ _ (by decide)]; exact h6, by rw [su_ni _ _ _ (by decide)]; exact h7⟩
theorem Inv.price (h : Inv σ n w tc pr tx nx ct mt) {np : Nat} (hp : np ≤ 100) : Inv (su σ 0 7 (nI np)) n w tc np tx nx ct mt := by
  obtain ⟨h1, h2, h3, h4, h5, h6, h7⟩ := h
  refine ⟨h1.fr (su_ni _ _ _ (by decide)) (su_ni _ _ _ (by decide)), ⟨?_, ?_, su_eq _ _ _ _, h2.2.2.2.1, h2.2.2.2.2.1, hp⟩, h3.fr (fun j a b => su_ni _ _ _ (by omega)), h4, by rw [su_ni _ _ _ (by decide)]; exact h5, by rw [su_ni _ _ _ (by decide)]; exact h6, by rw [su_ni _ _ _ (by decide)]; exact h7⟩
  · rw [su_nk _ _ _ (by decide)]; exact h2.1
  · rw [su_nk _ _ _ (by decide)]; exact h2.2.1
theorem Inv.tongue (h : Inv σ n w tc pr tx nx ct mt) (ht : tc < 5) : Inv (su σ 0 5 (nI (tc + 1))) n w (tc + 1) pr tx nx ct mt := by
  obtain ⟨h1, h2, h3, h4, h5, h6, h7⟩ := h
  refine ⟨h1.fr (su_ni _ _ _ (by decide)) (su_ni _ _ _ (by decide)), ⟨su_eq _ _ _ _, ?_, ?_, by omega, h2.2.2.2.2⟩, h3.fr (fun j a b => su_ni _ _ _ (by omega)), h4, by rw [su_ni _ _ _ (by decide)]; exact h5, by rw [su_ni _ _ _ (by decide)]; exact h6, by rw [su_ni _ _ _ (by decide)]; exact h7⟩
  · rw [su_nk _ _ _ (by decide)]; exact h2.2.1
  · rw [su_nk _ _ _ (by decide)]; exact h2.2.2.1
theorem Inv.free (h : Inv σ n w tc pr tx nx ct mt) (htx : tx < 30) : fsw (σ 17) (-1) 30 0 < 30 ∧ σ 17 (fsw (σ 17) (-1) 30 0) = -1 := by
  have h1 : fsw (σ 17) (-1) 30 0 < 30 := occ_free (by rw [h.2.2.2.2.2.1]; exact htx)
  exact ⟨h1, fsw_at _ _ 30 0 (by omega)⟩
/-- a text taught -/
theorem Inv.teach (h : Inv σ n w tc pr tx nx ct mt) {t s : Nat} (ht : t < 5) (hs : s < 30) (hs1 : σ 17 s = -1) (htx : tx < 30) (hnx : nx < 10000) (K : Kept σ τ s nx t (rc n) 0 n w (ct t) (mt t)) :
    Inv τ n w tc pr (tx + 1) (nx + 1) (un ct t (fun r => ct t r + ownF n w 0 (rc n) r)) (un mt t (mt t + rc n)) := by
  obtain ⟨h1, h2, h3, h4, h5, h6, h7⟩ := h
  obtain ⟨k1, k2, k3, k4, k5, k6, k7⟩ := K
  have hrc := rc_le h1.2.1
  refine ⟨h1.fr (k7 1 (by decide) (by decide) (by decide) (by decide) (by omega) (by omega) (by omega)) (k7 2 (by decide) (by decide) (by decide) (by decide) (by omega) (by omega) (by omega)), h2.fr (k7 0 (by decide) (by decide) (by decide) (by decide) (by omega) (by omega) (by omega)), fun u hu => ?_, fun u hu => ?_, k4, ?_, fun x hx => ?_⟩
  · by_cases e : u = t
    · subst e; rw [un_eq, un_eq]; exact k6
    · rw [un_ne _ _ e, un_ne _ _ e]
      exact (h3 u hu).fr (k7 _ (by omega) (by omega) (by omega) (by omega) (by omega) (by omega) (by omega)) (k7 _ (by omega) (by omega) (by omega) (by omega) (by omega) (by omega) (by omega))
  · by_cases e : u = t
    · subst e
      rw [un_eq, un_eq]
      obtain ⟨a1, a2, a3⟩ := h4 u hu
      refine ⟨by rw [sm_add, a1, sm_ownF (rn_lt (fun k hk => (h1.2.2 k hk).2))], by omega, fun r => ?_⟩
      have := ownF_le n w 0 (rc n) r
      have := a3 r
      show ct u r + ownF n w 0 (rc n) r ≤ _
      omega
    · rw [un_ne _ _ e, un_ne _ _ e]
      obtain ⟨a1, a2, a3⟩ := h4 u hu
      exact ⟨a1, by omega, fun r => by have := a3 r; omega⟩
  · rw [k1, occ_take hs hs1 (m1_ne (by omega)), h6]
  · rw [k1]
    by_cases e : x = s
    · subst e; exact Or.inr ⟨nx, by omega, upd_eq9 _ _ _⟩
    · rw [upd_ne9 _ _ e]
      rcases h7 x hx with h | ⟨m, hm, h⟩
      · exact Or.inl h
      · exact Or.inr ⟨m, by omega, h⟩
/-- .. and withdrawn at once -/
theorem Inv.withdraw (h : Inv σ n w tc pr tx nx ct mt) {t s : Nat} (ht : t < 5) (hs : s < 30) (hs1 : σ 17 s = -1) (htx : tx < 30) (hnx : nx < 10000) (K : Kept σ τ s nx t (rc n) 0 n w (ct t) (mt t))
    (e17 : τ2 17 = upd (τ 17) s (-1)) (eT : Tl τ2 (6 + t) (11 + t) (fun r => (un ct t (fun r => ct t r + ownF n w 0 (rc n) r)) t r - ownF n w 0 (rc n) r) ((un mt t (mt t + rc n)) t - rc n)) (eo : ∀ j, j ≠ 17 → j ≠ 6 + t → j ≠ 11 + t → τ2 j = τ j) :
    Inv τ2 n w tc pr tx (nx + 1) ct mt := by
  have g := h.teach ht hs hs1 htx hnx K
  obtain ⟨h1, h2, h3, h4, h5, h6, h7⟩ := h
  obtain ⟨g1, g2, g3, g4, g5, g6, g7⟩ := g
  refine ⟨g1.fr (eo 1 (by decide) (by omega) (by omega)) (eo 2 (by decide) (by omega) (by omega)), g2.fr (eo 0 (by decide) (by omega) (by omega)), fun u hu => ?_, h4, by rw [eo 16 (by decide) (by omega) (by omega)]; exact g5, ?_, fun x hx => ?_⟩
  · by_cases e : u = t
    · subst e
      rw [un_eq, un_eq] at eT
      have e1 : (fun r => (fun r => ct u r + ownF n w 0 (rc n) r) r - ownF n w 0 (rc n) r) = ct u := funext fun r => Nat.add_sub_cancel _ _
      rw [e1, Nat.add_sub_cancel] at eT
      exact eT
    · have := g3 u hu
      rw [un_ne _ _ e, un_ne _ _ e] at this
      exact this.fr (eo _ (by omega) (by omega) (by omega)) (eo _ (by omega) (by omega) (by omega))
  · rw [e17]
    have h8 : ¬ τ 17 s = -1 := by rw [K.1, upd_eq9]; exact m1_ne (by omega)
    have := occ_drop hs h8
    omega
  · rw [e17]
    by_cases e : x = s
    · subst e; exact Or.inl (upd_eq9 _ _ _)
    · rw [upd_ne9 _ _ e]; exact g7 x hx
end InvS
