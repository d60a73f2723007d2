/-! ===== a text more, a text less ===== -/
def un {α : Type} (f : Nat → α) (a : Nat) (v : α) : Nat → α := fun k => if k = a then v else f k
theorem un_eq {α : Type} (f : Nat → α) (a : Nat) (v : α) : un f a v a = v := if_pos rfl
theorem un_ne {α : Type} (f : Nat → α) {a k : Nat} (v : α) (h : k ≠ a) : un f a v k = f k := if_neg h
theorem upd_eq9 (f : Nat → Int32) (a : Nat) (v : Int32) : upd f a v a = v := if_pos rfl
theorem upd_ne9 (f : Nat → Int32) {a k : Nat} (v : Int32) (h : k ≠ a) : upd f a v k = f k := if_neg h
def shf {α : Type} (f : Nat → α) (k0 : Nat) : Nat → α := fun j => f (if k0 ≤ j then j + 1 else j)
theorem sm_drop (g : Nat → Nat) : ∀ (tx k0 : Nat), k0 < tx → sm g tx = sm (shf g k0) (tx - 1) + g k0
  | 0, k0, h => by omega
  | tx + 1, k0, h => by
    show sm g tx + g tx = sm (shf g k0) tx + g k0
    by_cases e : k0 = tx
    · subst e
      rw [sm_congr (f := shf g k0) (g := g) k0 (fun j hj => by unfold shf; rw [if_neg (by omega)])]
    · have hk : k0 < tx := by omega
      have ih := sm_drop g tx k0 hk
      obtain ⟨m, rfl⟩ : ∃ m, tx = m + 1 := ⟨tx - 1, by omega⟩
      have h2 : sm (shf g k0) (m + 1) = sm (shf g k0) m + g (m + 1) := by
        show sm (shf g k0) m + shf g k0 m = _
        congr 1
        unfold shf
        rw [if_pos (by omega)]
      rw [h2, ih]
      show sm (shf g k0) m + g k0 + g (m + 1) = _
      omega
theorem cntN_keep (wh wd : Nat → Nat) (kp : Nat → Nat → Nat) (tx t ln : Nat) (g : Nat → Nat) (u r : Nat) : cntN (un wh tx t) (un wd tx ln) (un kp tx g) (tx + 1) u r = cntN wh wd kp tx u r + (if t = u then cntF g ln r else 0) := by
  show sm _ tx + _ = _
  rw [sm_congr (g := fun k => if wh k = u then cntF (kp k) (wd k) r else 0) tx (fun k hk => by rw [un_ne _ _ (Nat.ne_of_lt hk), un_ne _ _ (Nat.ne_of_lt hk), un_ne _ _ (Nat.ne_of_lt hk)])]
  show _ + (if un wh tx t tx = u then cntF (un kp tx g tx) (un wd tx ln tx) r else 0) = _
  rw [un_eq, un_eq, un_eq]
  rfl
theorem totN_keep (wh wd : Nat → Nat) (tx t ln : Nat) (u : Nat) : totN (un wh tx t) (un wd tx ln) (tx + 1) u = totN wh wd tx u + (if t = u then ln else 0) := by
  show sm _ tx + _ = _
  rw [sm_congr (g := fun k => if wh k = u then wd k else 0) tx (fun k hk => by rw [un_ne _ _ (Nat.ne_of_lt hk), un_ne _ _ (Nat.ne_of_lt hk)])]
  show _ + (if un wh tx t tx = u then un wd tx ln tx else 0) = _
  rw [un_eq, un_eq]
  rfl
theorem cntN_drop (wh wd : Nat → Nat) (kp : Nat → Nat → Nat) {tx k0 : Nat} (h : k0 < tx) (u r : Nat) : cntN wh wd kp tx u r = cntN (shf wh k0) (shf wd k0) (shf kp k0) (tx - 1) u r + (if wh k0 = u then cntF (kp k0) (wd k0) r else 0) := sm_drop (fun k => if wh k = u then cntF (kp k) (wd k) r else 0) tx k0 h
theorem totN_drop (wh wd : Nat → Nat) {tx k0 : Nat} (h : k0 < tx) (u : Nat) : totN wh wd tx u = totN (shf wh k0) (shf wd k0) (tx - 1) u + (if wh k0 = u then wd k0 else 0) := sm_drop (fun k => if wh k = u then wd k else 0) tx k0 h
section KeepS
variable {σ τ : sS} {c n : Nat} {w : Nat → Nat} {tc mg pr tx nx : Nat} {nm wh wd : Nat → Nat} {kp : Nat → Nat → Nat} {loc : Nat → Nat}
theorem RR.keep (h : RR σ c n w tc mg pr tx nx nm wh wd kp loc) {s t ln f : Nat} (ht : t < tc) (hs : s < 30) (hs1 : σ 17 s = -1) (hln : f + ln ≤ rc n) (htx : tx < 30) (hnx : nx < 10000)
    (e17 : τ 17 = upd (σ 17) s (nI nx)) (e18 : τ 18 = upd (σ 18) s (nI t)) (e19 : τ 19 = upd (σ 19) s (nI ln)) (e16 : τ 16 4 = nI (nx + 1)) (er : ∀ p, p < ln → τ (21 + s) p = nI (rn n w (f + p)))
    (eT : Tl τ (6 + t) (11 + t) (fun r => cntN wh wd kp tx t r + ownF n w f ln r) (totN wh wd tx t + ln))
    (e91 : τ 91 = upd (σ 91) tx (nI nx)) (e92 : τ 92 = upd (σ 92) tx (nI t)) (e93 : τ 93 = upd (σ 93) tx (nI ln)) (e94 : ∀ p, p < ln → τ 94 (17 * tx + p) = nI (rn n w (f + p))) (f94 : ∀ i, i < 17 * tx → τ 94 i = σ 94 i)
    (e6 : τ 89 6 = nI (tx + 1)) (e7 : τ 89 7 = nI (nx + 1)) (e89 : ∀ k, k ≠ 0 → k ≠ 6 → k ≠ 7 → τ 89 k = σ 89 k)
    (eo : ∀ j, j ≠ 16 → j ≠ 17 → j ≠ 18 → j ≠ 19 → j ≠ 21 + s → j ≠ 6 + t → j ≠ 11 + t → j ≠ 89 → j ≠ 91 → j ≠ 92 → j ≠ 93 → j ≠ 94 → j ≠ 96 → τ j = σ j) :
    RR τ (c + 1) n w tc mg pr (tx + 1) (nx + 1) (un nm tx nx) (un wh tx t) (un wd tx ln) (un kp tx (fun j => rn n w (f + j))) (un loc tx s) := by
  have hnm := fun k hk => h.nm_le (k := k) hk
  obtain ⟨hS, hX, hM, hT, ⟨h1, h2, h3, h4, h5⟩, hc⟩ := h
  have hrl := hM.rn_lt
  have htc : tc ≤ 5 := hX.2.2.2.1
  have hrc : rc n ≤ 17 := by have := hS.2.1; unfold rc; split <;> omega
  have hls : ∀ k, k < tx → loc k ≠ s := fun k hk e => by
    have h9 := (h2 k hk).2.1
    rw [e, hs1] at h9
    exact nI_m1 (hnm k hk).1 h9.symm
  refine ⟨hS.fr (eo 1 (by decide) (by decide) (by decide) (by decide) (by omega) (by omega) (by omega) (by decide) (by decide) (by decide) (by decide) (by decide) (by decide)) (eo 2 (by decide) (by decide) (by decide) (by decide) (by omega) (by omega) (by omega) (by decide) (by decide) (by decide) (by decide) (by decide) (by decide)), ?_, ⟨?_, ?_, e6, e7, by omega, by omega, fun k hk => ?_⟩, fun u hu => ?_, ⟨e16, fun k hk => ?_, fun a b ha hb e => ?_, fun a b ha hb e => ?_, fun x hx => ?_⟩, by omega⟩
  · unfold Xs
    rw [eo 0 (by decide) (by decide) (by decide) (by decide) (by omega) (by omega) (by omega) (by decide) (by decide) (by decide) (by decide) (by decide) (by decide)]
    exact hX
  · rw [e89 2 (by decide) (by decide) (by decide), eo 90 (by decide) (by decide) (by decide) (by decide) (by omega) (by omega) (by omega) (by decide) (by decide) (by decide) (by decide) (by decide) (by decide)]
    exact hM.1
  · rw [e89 3 (by decide) (by decide) (by decide), e89 4 (by decide) (by decide) (by decide), e89 5 (by decide) (by decide) (by decide)]
    exact hM.2.1
  · by_cases ek : k = tx
    · subst ek
      rw [un_eq, un_eq, un_eq, un_eq, e91, e92, e93, upd_eq9, upd_eq9, upd_eq9]
      exact ⟨⟨rfl, by omega⟩, ⟨rfl, by omega⟩, ⟨rfl, by omega⟩, fun j hj => ⟨e94 j hj, hrl _⟩⟩
    · rw [un_ne _ _ ek, un_ne _ _ ek, un_ne _ _ ek, un_ne _ _ ek, e91, e92, e93, upd_ne9 _ _ ek, upd_ne9 _ _ ek, upd_ne9 _ _ ek]
      obtain ⟨a1, a2, a3, a4⟩ := hM.2.2.2.2.2.2 k (by omega)
      exact ⟨a1, a2, a3, fun j hj => by rw [f94 _ (by have := a3.2; omega)]; exact a4 j hj⟩
  · by_cases eu : t = u
    · subst eu
      rw [show cntN (un wh tx t) (un wd tx ln) (un kp tx (fun j => rn n w (f + j))) (tx + 1) t = fun r => cntN wh wd kp tx t r + ownF n w f ln r from funext fun r => by rw [cntN_keep, if_pos rfl]; rfl, totN_keep, if_pos rfl]
      exact eT
    · rw [show cntN (un wh tx t) (un wd tx ln) (un kp tx (fun j => rn n w (f + j))) (tx + 1) u = cntN wh wd kp tx u from funext fun r => by rw [cntN_keep, if_neg eu]; rfl, totN_keep, if_neg eu]
      exact (hT u hu).fr (eo _ (by omega) (by omega) (by omega) (by omega) (by omega) (by omega) (by omega) (by omega) (by omega) (by omega) (by omega) (by omega) (by omega)) (eo _ (by omega) (by omega) (by omega) (by omega) (by omega) (by omega) (by omega) (by omega) (by omega) (by omega) (by omega) (by omega) (by omega))
  · by_cases ek : k = tx
    · subst ek
      rw [un_eq, un_eq, un_eq, un_eq, un_eq, e17, e18, e19, upd_eq9, upd_eq9, upd_eq9]
      exact ⟨hs, rfl, rfl, rfl, er, by omega, ht⟩
    · have hk' : k < tx := by omega
      obtain ⟨a1, a2, a3, a4, a5, a6, a7⟩ := h2 k hk'
      have hl := hls k hk'
      rw [un_ne _ _ ek, un_ne _ _ ek, un_ne _ _ ek, un_ne _ _ ek, un_ne _ _ ek, e17, e18, e19, upd_ne9 _ _ hl, upd_ne9 _ _ hl, upd_ne9 _ _ hl]
      exact ⟨a1, a2, a3, a4, fun j hj => by rw [eo _ (by omega) (by omega) (by omega) (by omega) (by omega) (by omega) (by omega) (by omega) (by omega) (by omega) (by omega) (by omega) (by omega)]; exact a5 j hj, by omega, a7⟩
  · by_cases ea : a = tx
    · by_cases eb : b = tx
      · omega
      · rw [ea, un_eq, un_ne _ _ eb] at e
        exact absurd e.symm (hls b (by omega))
    · by_cases eb : b = tx
      · rw [eb, un_eq, un_ne _ _ ea] at e
        exact absurd e (hls a (by omega))
      · rw [un_ne _ _ ea, un_ne _ _ eb] at e
        exact h3 a b (by omega) (by omega) e
  · by_cases ea : a = tx
    · by_cases eb : b = tx
      · omega
      · rw [ea, un_eq, un_ne _ _ eb] at e
        have := (h2 b (by omega)).2.2.2.2.2.1
        omega
    · by_cases eb : b = tx
      · rw [eb, un_eq, un_ne _ _ ea] at e
        have := (h2 a (by omega)).2.2.2.2.2.1
        omega
      · rw [un_ne _ _ ea, un_ne _ _ eb] at e
        exact h4 a b (by omega) (by omega) e
  · by_cases ex : x = s
    · exact Or.inl ⟨tx, by omega, by rw [un_eq, ex]⟩
    · rw [e17, upd_ne9 _ _ ex]
      exact (h5 x hx).imp (fun ⟨k, hk, e⟩ => ⟨k, by omega, by rw [un_ne _ _ (by omega)]; exact e⟩) id
theorem RR.drop (h : RR σ c n w tc mg pr tx nx nm wh wd kp loc) {k0 : Nat} (hk0 : k0 < tx) (e17 : τ 17 = upd (σ 17) (loc k0) (-1))
    (eT : Tl τ (6 + wh k0) (11 + wh k0) (fun r => cntN wh wd kp tx (wh k0) r - cntF (kp k0) (wd k0) r) (totN wh wd tx (wh k0) - wd k0)) (e6 : τ 89 6 = nI (tx - 1)) (e89 : ∀ k, k ≠ 0 → k ≠ 6 → τ 89 k = σ 89 k)
    (es : ∀ k, k < tx - 1 → τ 91 k = (if k0 ≤ k then σ 91 (k + 1) else σ 91 k) ∧ τ 92 k = (if k0 ≤ k then σ 92 (k + 1) else σ 92 k) ∧ τ 93 k = (if k0 ≤ k then σ 93 (k + 1) else σ 93 k) ∧ ∀ j, j < 17 → τ 94 (17 * k + j) = if k0 ≤ k then σ 94 (17 * (k + 1) + j) else σ 94 (17 * k + j))
    (eo : ∀ j, j ≠ 17 → j ≠ 6 + wh k0 → j ≠ 11 + wh k0 → j ≠ 89 → j ≠ 91 → j ≠ 92 → j ≠ 93 → j ≠ 94 → j ≠ 96 → τ j = σ j) :
    RR τ (c + 1) n w tc mg pr (tx - 1) nx (shf nm k0) (shf wh k0) (shf wd k0) (shf kp k0) (shf loc k0) := by
  have hnm := fun k hk => h.nm_le (k := k) hk
  obtain ⟨hS, hX, hM, hT, ⟨h1, h2, h3, h4, h5⟩, hc⟩ := h
  have htc : tc ≤ 5 := hX.2.2.2.1
  have ht := (h2 k0 hk0).2.2.2.2.2.2
  have hix : ∀ k, k < tx - 1 → (if k0 ≤ k then k + 1 else k) < tx ∧ (if k0 ≤ k then k + 1 else k) ≠ k0 := fun k hk => by split <;> omega
  have hinj : ∀ a b : Nat, (if k0 ≤ a then a + 1 else a) = (if k0 ≤ b then b + 1 else b) → a = b := fun a b e => by
    by_cases h1 : k0 ≤ a <;> by_cases h2 : k0 ≤ b
    · rw [if_pos h1, if_pos h2] at e; omega
    · rw [if_pos h1, if_neg h2] at e; omega
    · rw [if_neg h1, if_pos h2] at e; omega
    · rw [if_neg h1, if_neg h2] at e; exact e
  have hls : ∀ k, k < tx → k ≠ k0 → loc k ≠ loc k0 := fun k hk hne e => hne (h3 k k0 hk hk0 e)
  refine ⟨hS.fr (eo 1 (by decide) (by omega) (by omega) (by decide) (by decide) (by decide) (by decide) (by decide) (by decide)) (eo 2 (by decide) (by omega) (by omega) (by decide) (by decide) (by decide) (by decide) (by decide) (by decide)), ?_, ⟨?_, ?_, e6, ?_, by have := hM.2.2.2.2.1; omega, hM.2.2.2.2.2.1, fun k hk => ?_⟩, fun u hu => ?_, ⟨?_, fun k hk => ?_, fun a b ha hb e => ?_, fun a b ha hb e => ?_, fun x hx => ?_⟩, by omega⟩
  · unfold Xs
    rw [eo 0 (by decide) (by omega) (by omega) (by decide) (by decide) (by decide) (by decide) (by decide) (by decide)]
    exact hX
  · rw [e89 2 (by decide) (by decide), eo 90 (by decide) (by omega) (by omega) (by decide) (by decide) (by decide) (by decide) (by decide) (by decide)]
    exact hM.1
  · rw [e89 3 (by decide) (by decide), e89 4 (by decide) (by decide), e89 5 (by decide) (by decide)]
    exact hM.2.1
  · rw [e89 7 (by decide) (by decide)]
    exact hM.2.2.2.1
  · obtain ⟨b1, b2, b3, b4⟩ := es k hk
    have hi := (hix k hk).1
    obtain ⟨a1, a2, a3, a4⟩ := hM.2.2.2.2.2.2 _ hi
    unfold shf
    refine ⟨⟨?_, a1.2⟩, ⟨?_, a2.2⟩, ⟨?_, a3.2⟩, fun j hj => ⟨?_, (a4 j hj).2⟩⟩
    · rw [b1, ← a1.1]; split <;> rfl
    · rw [b2, ← a2.1]; split <;> rfl
    · rw [b3, ← a3.1]; split <;> rfl
    · rw [b4 j (by have := a3.2; omega), ← (a4 j hj).1]; split <;> rfl
  · have hd := fun r => cntN_drop wh wd kp hk0 u r
    have hd2 := totN_drop wh wd hk0 u
    by_cases eu : wh k0 = u
    · subst eu
      have e1 : cntN (shf wh k0) (shf wd k0) (shf kp k0) (tx - 1) (wh k0) = fun r => cntN wh wd kp tx (wh k0) r - cntF (kp k0) (wd k0) r := funext fun r => by
        have := hd r
        rw [if_pos rfl] at this
        omega
      rw [if_pos rfl] at hd2
      rw [e1, show totN (shf wh k0) (shf wd k0) (tx - 1) (wh k0) = totN wh wd tx (wh k0) - wd k0 by omega]
      exact eT
    · have e1 : cntN (shf wh k0) (shf wd k0) (shf kp k0) (tx - 1) u = cntN wh wd kp tx u := funext fun r => by
        have := hd r
        rw [if_neg eu] at this
        omega
      rw [if_neg eu] at hd2
      rw [e1, show totN (shf wh k0) (shf wd k0) (tx - 1) u = totN wh wd tx u by omega]
      exact (hT u hu).fr (eo _ (by omega) (by omega) (by omega) (by omega) (by omega) (by omega) (by omega) (by omega) (by omega)) (eo _ (by omega) (by omega) (by omega) (by omega) (by omega) (by omega) (by omega) (by omega) (by omega))
  · rw [eo 16 (by decide) (by omega) (by omega) (by decide) (by decide) (by decide) (by decide) (by decide) (by decide)]
    exact h1
  · obtain ⟨hi, hne⟩ := hix k hk
    obtain ⟨a1, a2, a3, a4, a5, a6⟩ := h2 _ hi
    have hl := hls _ hi hne
    unfold shf
    rw [e17, upd_ne9 _ _ hl, eo 18 (by decide) (by omega) (by omega) (by decide) (by decide) (by decide) (by decide) (by decide) (by decide), eo 19 (by decide) (by omega) (by omega) (by decide) (by decide) (by decide) (by decide) (by decide) (by decide)]
    exact ⟨a1, a2, a3, a4, fun j hj => by rw [eo _ (by omega) (by omega) (by omega) (by omega) (by omega) (by omega) (by omega) (by omega) (by omega)]; exact a5 j hj, a6⟩
  · exact hinj a b (h3 _ _ (hix a ha).1 (hix b hb).1 e)
  · exact hinj a b (h4 _ _ (hix a ha).1 (hix b hb).1 e)
  · by_cases ex : x = loc k0
    · exact Or.inr (by rw [e17, ex, upd_eq9])
    · rw [e17, upd_ne9 _ _ ex]
      refine (h5 x hx).imp (fun ⟨k, hk, e⟩ => ?_) id
      have hne : k ≠ k0 := fun e2 => ex (by rw [← e, e2])
      by_cases hlt : k < k0
      · exact ⟨k, by omega, by unfold shf; rw [if_neg (by omega)]; exact e⟩
      · exact ⟨k - 1, by omega, by unfold shf; rw [if_pos (by omega), show k - 1 + 1 = k by omega]; exact e⟩
end KeepS
