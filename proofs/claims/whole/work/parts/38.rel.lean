/-! ===== class and reference side by side: what holds between them ===== -/
theorem pig : ∀ (m n : Nat) (f : Nat → Nat), (∀ k, k < n → f k < m) → (∀ a b, a < n → b < n → f a = f b → a = b) → n ≤ m
  | 0, n, f, h, _ => by
    rcases n with _ | n
    · exact Nat.le_refl _
    · exact absurd (h 0 (by omega)) (by omega)
  | m + 1, 0, f, _, _ => by omega
  | m + 1, n + 1, f, h, hi => by
    have hn := h n (by omega)
    refine Nat.succ_le_succ (pig m n (fun k => if f k = m then f n else f k) (fun k hk => ?_) (fun a b ha hb e => ?_))
    · show (if f k = m then f n else f k) < m
      have h1 := h k (by omega)
      split
      · rename_i e
        have : f n ≠ m := fun e2 => absurd (hi k n (by omega) (by omega) (e.trans e2.symm)) (by omega)
        omega
      · omega
    · have e : (if f a = m then f n else f a) = (if f b = m then f n else f b) := e
      by_cases ea : f a = m
      · by_cases eb : f b = m
        · exact hi a b (by omega) (by omega) (ea.trans eb.symm)
        · rw [if_pos ea, if_neg eb] at e
          exact absurd (hi n b (by omega) (by omega) e) (by omega)
      · by_cases eb : f b = m
        · rw [if_neg ea, if_pos eb] at e
          exact absurd (hi a n (by omega) (by omega) e) (by omega)
        · rw [if_neg ea, if_neg eb] at e
          exact hi a b (by omega) (by omega) e
theorem nI_inj {a b : Nat} (ha : a ≤ 10000) (hb : b ≤ 10000) (h : nI a = nI b) : a = b := (nI_eq (by omega) (by omega)).mp h
theorem nI_m1 {a : Nat} (ha : a ≤ 10000) : nI a ≠ -1 := fun h => nI_pos (n := a) (by omega) (by rw [h]; decide)
/-- the shelf's slots and the taught texts in the order of their teaching: text k lies in slot loc k -/
def Sh (σ : sS) (tc tx nx : Nat) (nm wh wd : Nat → Nat) (kp : Nat → Nat → Nat) (loc : Nat → Nat) : Prop :=
  σ 16 4 = nI nx ∧ (∀ k, k < tx → loc k < 30 ∧ σ 17 (loc k) = nI (nm k) ∧ σ 18 (loc k) = nI (wh k) ∧ σ 19 (loc k) = nI (wd k) ∧ (∀ j, j < wd k → σ (21 + loc k) j = nI (kp k j)) ∧ nm k < nx ∧ wh k < tc) ∧
  (∀ a b, a < tx → b < tx → loc a = loc b → a = b) ∧ (∀ a b, a < tx → b < tx → nm a = nm b → a = b) ∧ ∀ s, s < 30 → (∃ k, k < tx ∧ loc k = s) ∨ σ 17 s = -1
def RR (σ : sS) (c n : Nat) (w : Nat → Nat) (tc mg pr tx nx : Nat) (nm wh wd : Nat → Nat) (kp : Nat → Nat → Nat) (loc : Nat → Nat) : Prop :=
  Sp σ n w ∧ Xs σ tc mg pr ∧ MM σ n w tc mg pr tx nx nm wh wd kp ∧ Ta σ (cntN wh wd kp tx) (totN wh wd tx) ∧ Sh σ tc tx nx nm wh wd kp loc ∧ nx ≤ c
def Rel (σ : sS) (c : Nat) : Prop := ∃ (n : Nat) (w : Nat → Nat) (tc mg pr tx nx : Nat) (nm wh wd : Nat → Nat) (kp : Nat → Nat → Nat) (loc : Nat → Nat), RR σ c n w tc mg pr tx nx nm wh wd kp loc
section RRs
variable {σ τ : sS} {c n : Nat} {w : Nat → Nat} {tc mg pr tx nx : Nat} {nm wh wd : Nat → Nat} {kp : Nat → Nat → Nat} {loc : Nat → Nat}
theorem RR.fr (h : RR σ c n w tc mg pr tx nx nm wh wd kp loc) (e : ∀ k, k ≠ 0 → τ 89 k = σ 89 k) (e2 : ∀ j, 89 < j → j < 95 → τ j = σ j) (e3 : ∀ j, j < 51 → j ≠ 3 → j ≠ 4 → τ j = σ j) : RR τ c n w tc mg pr tx nx nm wh wd kp loc := by
  obtain ⟨hS, hX, hM, hT, ⟨h1, h2, h3, h4, h5⟩, hc⟩ := h
  refine ⟨hS.fr (e3 1 (by decide) (by decide) (by decide)) (e3 2 (by decide) (by decide) (by decide)), ?_, hM.fr e e2, hT.fr (fun j h1 h2 => e3 j (by omega) (by omega) (by omega)), ⟨?_, fun k hk => ?_, h3, h4, fun s hs => ?_⟩, hc⟩
  · unfold Xs
    rw [e3 0 (by decide) (by decide) (by decide)]
    exact hX
  · rw [e3 16 (by decide) (by decide) (by decide)]
    exact h1
  · obtain ⟨a1, a2, a3, a4, a5, a6⟩ := h2 k hk
    rw [e3 17 (by decide) (by decide) (by decide), e3 18 (by decide) (by decide) (by decide), e3 19 (by decide) (by decide) (by decide)]
    exact ⟨a1, a2, a3, a4, fun j hj => by rw [e3 _ (by omega) (by omega) (by omega)]; exact a5 j hj, a6⟩
  · rw [e3 17 (by decide) (by decide) (by decide)]
    exact h5 s hs
theorem RR.nm_le (h : RR σ c n w tc mg pr tx nx nm wh wd kp loc) {k : Nat} (hk : k < tx) : nm k ≤ 10000 ∧ σ 91 k = nI (nm k) := ⟨(h.2.2.1.2.2.2.2.2.2 k hk).1.2, (h.2.2.1.2.2.2.2.2.2 k hk).1.1⟩
theorem RR.tx_le (h : RR σ c n w tc mg pr tx nx nm wh wd kp loc) : tx ≤ 30 := h.2.2.1.2.2.2.2.1
theorem RR.full (h : RR σ c n w tc mg pr tx nx nm wh wd kp loc) : fsw (σ 17) (-1) 30 0 = 30 ↔ tx = 30 := by
  have htx := h.tx_le
  obtain ⟨h1, h2, h3, h4, h5⟩ := h.2.2.2.2.1
  constructor
  · intro hf
    have hall : ∀ s, s < 30 → ∃ k, k < tx ∧ loc k = s := fun s hs => (h5 s hs).resolve_right (fsw_no _ _ 30 0 s (by omega) (by omega))
    have hch : ∃ g : Nat → Nat, ∀ s, s < 30 → g s < tx ∧ loc (g s) = s :=
      ⟨fun s => if hs : s < 30 then Classical.choose (hall s hs) else 0, fun s hs => by
        show (if hs : s < 30 then Classical.choose (hall s hs) else 0) < tx ∧ loc (if hs : s < 30 then Classical.choose (hall s hs) else 0) = s
        rw [dif_pos hs]
        exact Classical.choose_spec (hall s hs)⟩
    obtain ⟨g, hg⟩ := hch
    have := pig tx 30 g (fun s hs => (hg s hs).1) (fun a b ha hb e => by rw [← (hg a ha).2, ← (hg b hb).2, e])
    omega
  · intro ht
    subst ht
    refine Nat.le_antisymm (fsw_30 _ _) (Nat.not_lt.mp fun hlt => ?_)
    have hat := fsw_at (σ 17) (-1) 30 0 (by omega)
    generalize fsw (σ 17) (-1) 30 0 = s at hlt hat
    have hno : ∀ k, k < 30 → loc k ≠ s := fun k hk e => by
      have h9 := (h2 k hk).2.1
      rw [e, hat] at h9
      exact nI_m1 (h.nm_le hk).1 h9.symm
    have := pig 30 31 (fun k => if k = 30 then s else loc k) (fun k hk => by
      show (if k = 30 then s else loc k) < 30
      split
      · exact hlt
      · exact (h2 k (by omega)).1) (fun a b ha hb e => by
      have e : (if a = 30 then s else loc a) = (if b = 30 then s else loc b) := e
      by_cases ea : a = 30
      · by_cases eb : b = 30
        · omega
        · rw [if_pos ea, if_neg eb] at e
          exact absurd e.symm (hno b (by omega))
      · by_cases eb : b = 30
        · rw [if_neg ea, if_pos eb] at e
          exact absurd e (hno a (by omega))
        · rw [if_neg ea, if_neg eb] at e
          exact h3 a b (by omega) (by omega) e)
    omega
theorem RR.hit (h : RR σ c n w tc mg pr tx nx nm wh wd kp loc) {k : Nat} (hk : k < tx) : slt (σ 91) (nI (nm k)) tx = k + 1 ∧ fsw (σ 17) (nI (nm k)) 30 0 = loc k ∧ ¬ nI (nm k) < 0 := by
  obtain ⟨h1, h2, h3, h4, h5⟩ := h.2.2.2.2.1
  refine ⟨?_, ?_, nI_pos (by have := (h.nm_le hk).1; omega)⟩
  · rcases e : slt (σ 91) (nI (nm k)) tx with _ | s
    · exact absurd (h.nm_le hk).2 (slt_no _ _ _ e k hk)
    · have hs := slt_le (σ 91) (nI (nm k)) tx
      have hat := slt_at _ _ _ _ e
      rw [(h.nm_le (k := s) (by omega)).2] at hat
      rw [h4 s k (by omega) hk (nI_inj (h.nm_le (by omega)).1 (h.nm_le hk).1 hat)]
  · have hle := fsw_30 (σ 17) (nI (nm k))
    have hlk := (h2 k hk).1
    have hlt : fsw (σ 17) (nI (nm k)) 30 0 < 30 := Nat.lt_of_not_le fun hge => fsw_no (σ 17) (nI (nm k)) 30 0 (loc k) (by omega) (by omega) (h2 k hk).2.1
    have hat := fsw_at (σ 17) (nI (nm k)) 30 0 (by omega)
    rcases h5 _ hlt with ⟨a, ha, e⟩ | e
    · rw [← e, (h2 a ha).2.1] at hat
      rw [← e, h4 a k ha hk (nI_inj (h.nm_le ha).1 (h.nm_le hk).1 hat)]
    · rw [hat] at e
      exact absurd e (nI_m1 (h.nm_le hk).1)
theorem RR.miss (h : RR σ c n w tc mg pr tx nx nm wh wd kp loc) {x : Int32} (hx : ∀ k, k < tx → nI (nm k) ≠ x) : slt (σ 91) x tx = 0 ∧ (x < 0 ∨ fsw (σ 17) x 30 0 = 30) := by
  obtain ⟨h1, h2, h3, h4, h5⟩ := h.2.2.2.2.1
  constructor
  · rcases e : slt (σ 91) x tx with _ | s
    · rfl
    · have hs := slt_le (σ 91) x tx
      have hat := slt_at _ _ _ _ e
      rw [(h.nm_le (k := s) (by omega)).2] at hat
      exact absurd hat (hx s (by omega))
  · have hle := fsw_30 (σ 17) x
    by_cases hlt : fsw (σ 17) x 30 0 < 30
    · have hat := fsw_at (σ 17) x 30 0 (by omega)
      rcases h5 _ hlt with ⟨a, ha, e⟩ | e
      · rw [← e, (h2 a ha).2.1] at hat
        exact absurd hat (hx a ha)
      · rw [hat] at e
        exact Or.inl (by rw [e]; decide)
    · exact Or.inr (by omega)
theorem RR.find (h : RR σ c n w tc mg pr tx nx nm wh wd kp loc) (x : Int32) : (∃ k, k < tx ∧ x = nI (nm k) ∧ slt (σ 91) x tx = k + 1 ∧ fsw (σ 17) x 30 0 = loc k ∧ ¬ x < 0) ∨ (slt (σ 91) x tx = 0 ∧ (x < 0 ∨ fsw (σ 17) x 30 0 = 30)) := by
  by_cases hx : ∃ k, k < tx ∧ nI (nm k) = x
  · obtain ⟨k, hk, rfl⟩ := hx
    exact Or.inl ⟨k, hk, rfl, h.hit hk⟩
  · exact Or.inr (h.miss fun k hk e => hx ⟨k, hk, e⟩)
end RRs
