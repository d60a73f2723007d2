/-! ===== the cutter ===== -/
/-! ===== more of the cuts ===== -/
theorem bv_pred (n : Nat) : nI n - nI 1 = bv n := by
  cases n with
  | zero => decide
  | succ k => rw [pk_sub (by omega)]; rfl
theorem bv_dec (n : Nat) : nI n + Int32.ofInt (-1) = bv n := by
  have h : Int32.ofInt (-1) = -1 := by decide
  rw [h]
  cases n with
  | zero => decide
  | succ k => exact pk_m1 k
theorem Ct.fr {σ τ : sS} {N tc pr : Nat} (h : Ct σ N tc pr) (e : τ 51 = σ 51) : Ct τ N tc pr := by
  unfold Ct at h ⊢
  rw [e]
  exact h
theorem Cs.fr {σ τ : sS} {N tc : Nat} {k : Nat → Nat → Nat} (h : Cs σ N tc k) (e : ∀ p, p < N → τ (53 + p) = σ (53 + p)) : Cs τ N tc k := fun p t hp ht => by rw [e p hp]; exact h p t hp ht
theorem Rs.fr {σ τ : sS} {N tc q pr : Nat} {k : Nat → Nat → Nat} (h : Rs σ N tc q k pr) (e : ∀ p, q ≤ p → p < N → τ (72 + p) = σ (72 + p)) : Rs τ N tc q k pr := fun p t hq hp ht => by rw [e p hq hp]; exact h p t hq hp ht
theorem min_nI {a b : Nat} (ha : a < 2 ^ 31) (hb : b < 2 ^ 31) : (if nI b < nI a then nI b else nI a) = nI (min a b) := by
  by_cases h : b < a
  · rw [if_pos ((nI_ltI hb ha).mpr h), Nat.min_eq_right (by omega)]
  · rw [if_neg (fun q => h ((nI_ltI hb ha).mp q)), Nat.min_eq_left (by omega)]
theorem stepMin {g : Nat → Nat} {t lv own : Nat} (h : (t = 0 ∧ lv = 1000000) ∨ (0 < t ∧ lv = g (amin g t))) (ho : own = g t) (hb : own ≤ 1000000) : min lv own = g (amin g (t + 1)) := by
  rcases h with ⟨rfl, rfl⟩ | ⟨h, rfl⟩
  · rw [show amin g (0 + 1) = 0 by simp [amin], ← ho, Nat.min_eq_right hb]
  · rw [amin, ho]
    split
    · exact Nat.min_eq_right (by omega)
    · exact Nat.min_eq_left (by omega)
/-- the least cost of the last j runs, behind b: bounded -/
theorem lb_le {k : Nat → Nat → Nat} {pr tc N : Nat} (hk : ∀ p t, p < N → t < tc → k p t ≤ 10) (hpr : pr ≤ 100) (htc : 0 < tc) {j : Nat} (b : Nat) (hj : j ≤ N) : lb k pr tc N j b ≤ 110 * j + 100 := by
  unfold lb
  split
  · omega
  · have h3 := rb_le hk hpr htc j (amin (fun u => rb k pr tc N j u + chg pr b u) tc) hj (amin_lt _ _ htc)
    have h4 := chg_le pr b (amin (fun u => rb k pr tc N j u + chg pr b u) tc)
    show rb k pr tc N j _ + chg pr b _ ≤ _
    omega
set_option maxHeartbeats 4000000 in
set_option maxRecDepth 100000 in
theorem c_X0_fillRest (l : Launch) (D : va_G) (cy : Nat → ClassId) (ad : Nat → Nat) (hDis : Dis ad) (σ : sS) {N tc pr : Nat} (hC : Ct σ N tc pr) {k9 : Nat → Nat → Nat} (hK9 : Cs σ N tc k9) : Mv l yX0_fillRest wsX0_fillRest 4 92 D cy ad [.ref (ad 51)] σ (fun τ => Rs τ N tc 0 k9 pr ∧ ∀ j, (j < 72 ∨ 89 ≤ j) → τ j = σ j) := by
  have w0 : Cond.fieldLink RX0 23 "Tonguetell$Cutter" "runCount" "I" ∈ wsX0_fillRest := by decide +kernel
  have w1 : ∀ w ∈ wsX00, w ∈ wsX0_fillRest := by decide +kernel
  have w2 : Cond.fieldLink RX0 27 "Tonguetell$Cutter" "choices" "I" ∈ wsX0_fillRest := by decide +kernel
  have w3 : Cond.fieldLink RX0 20 "Tonguetell$Cutter" "rest" "[[I" ∈ wsX0_fillRest := by decide +kernel
  have w4 : Cond.fieldLink RX0 11 "Tonguetell$Cutter" "costs" "[[I" ∈ wsX0_fillRest := by decide +kernel
  have hC0 := hC
  obtain ⟨hc1, hc2, hc3, hc4, hc5, hc6, hc7⟩ := hC
  have hk : ∀ p t, p < N → t < tc → k9 p t ≤ 10 := fun p t h1 h2 => (hK9 p t h1 h2).2
  refine Mv.of (cc := cX0_fillRest) (nL := 3) (own := RX0) hDis (by decide) rfl [(0, .ref (ad 51))] rfl (Nat.le_of_ble_eq_true rfl) rfl ?_
  intro p e s m args below meth c A Q C hret
  refine tg_aload_n C dX0_fillRest_0 1 rfl rfl 0 rfl ?_
  refine tg_get (T := TX0) (N := 6) (Cn := RX0) C 51 (by decide) (e_51 ad cy _) rfl w1 3 (by decide) w0 rfl rfl dX0_fillRest_1 4 rfl ?_
  refine tg_top (y := nI N) (hC0.1) ?_
  refine tg_iconst C (nI 1) dX0_fillRest_4 5 rfl (by decide) ?_
  refine tg_isub C (bv N) dX0_fillRest_5 6 rfl (bv_pred N) ?_
  refine tg_istore_n C dX0_fillRest_6 7 rfl rfl [(1, .int (bv N)), (0, .ref (ad 51))] (by decide) rfl ?_
  have L7 : ∀ (n7 : Nat) (q : Nat) (σ1 : sS), (q ≤ N ∧ Rs σ1 N tc q k9 pr ∧ ∀ j, (j < 72 ∨ 89 ≤ j) → σ1 j = σ j) → q < n7 → TT p l e (Rm 4 92) s m args below meth c D cy ad A 3 0 0 Q σ1 7 [(0, .ref (ad 51)), (1, .int (bv q))] [] := by
    intro n7
    induction n7 with
    | zero => intro q σ1 _ hn7; exact absurd hn7 (Nat.not_lt_zero _)
    | succ n7 ih7 =>
      intro q σ1 ⟨hq, hR, hf⟩ hn7
      have hC1 : Ct σ1 N tc pr := hC0.fr (hf 51 (by omega))
      refine tg_iload_n C dX0_fillRest_7 8 rfl rfl 1 rfl ?_
      refine tg_if_lt C 56 dX0_fillRest_8 (by decide) 11 rfl (fun c8 => ?_) (fun c8 => ?_)
      · -- to 56
        replace c8 := (bv_lt (by omega)).mp c8
        subst c8
        exact hret dX0_fillRest_56 ⟨hR, hf⟩
      · -- on
        obtain ⟨p9, rfl⟩ : ∃ p9, q = p9 + 1 := ⟨q - 1, by have : q ≠ 0 := fun h => c8 ((bv_lt (by omega)).mpr h); omega⟩
        refine tg_sub (lv' := [(0, .ref (ad 51)), (1, .int (nI p9))]) [0, 1] rfl ?_
        refine tg_iconst C (nI 0) dX0_fillRest_11 12 rfl (by decide) ?_
        refine tg_istore_n C dX0_fillRest_12 13 rfl rfl [(2, .int (nI 0)), (0, .ref (ad 51)), (1, .int (nI p9))] (by decide) rfl ?_
        have L13 : ∀ (n13 : Nat) (t : Nat) (σ2 : sS), (t ≤ tc ∧ (∀ u, u < t → σ2 (72 + p9) u = nI (rb k9 pr tc N (N - p9) u)) ∧ ∀ j, j ≠ 72 + p9 → σ2 j = σ1 j) → tc - t < n13 → TT p l e (Rm 4 92) s m args below meth c D cy ad A 3 0 0 Q σ2 13 [(0, .ref (ad 51)), (1, .int (nI p9)), (2, .int (nI t))] [] := by
          intro n13
          induction n13 with
          | zero => intro t σ2 _ hn13; exact absurd hn13 (Nat.not_lt_zero _)
          | succ n13 ih13 =>
            intro t σ2 ⟨ht, hr, hf2⟩ hn13
            have hC2 : Ct σ2 N tc pr := hC1.fr (hf2 51 (by omega))
            have hR2 : Rs σ2 N tc (p9 + 1) k9 pr := hR.fr (fun p h1 _ => hf2 (72 + p) (by omega))
            refine tg_iload_n C dX0_fillRest_13 14 rfl rfl 2 rfl ?_
            refine tg_aload_n C dX0_fillRest_14 15 rfl rfl 0 rfl ?_
            refine tg_get (T := TX0) (N := 6) (Cn := RX0) C 51 (by decide) (e_51 ad cy _) rfl w1 4 (by decide) w2 rfl rfl dX0_fillRest_15 18 rfl ?_
            refine tg_top (y := nI tc) (hC2.2.1) ?_
            refine tg_icmp_ge C 50 dX0_fillRest_18 (by decide) 21 rfl (fun c18 => ?_) (fun c18 => ?_)
            · -- to 50
              replace c18 : tc ≤ t := (nI_leI (by omega) (by omega)).mp c18
              refine tg_iinc C (bv p9) dX0_fillRest_50 53 rfl 1 rfl (bv_dec p9) [(1, .int (bv p9)), (0, .ref (ad 51)), (2, .int (nI t))] (by decide) rfl ?_
              refine tg_goto C 7 dX0_fillRest_53 (by decide) ?_
              refine tg_sub [1, 0] rfl ?_
              refine ih7 p9 σ2 ⟨by omega, fun p t h1 h2 h3 => ?_, fun j hj => by rw [hf2 j (by omega)]; exact hf j hj⟩ (by omega)
              by_cases hp : p = p9
              · rw [hp]; exact hr t (by omega)
              · rw [hf2 (72 + p) (by omega)]; exact hR p t (by omega) h2 h3
            · -- on
              replace c18 : ¬ tc ≤ t := fun q => c18 ((nI_leI (by omega) (by omega)).mpr q)
              have hrow : σ2 (53 + p9) t = nI (k9 p9 t) := by rw [hf2 _ (by omega), hf _ (by omega)]; exact (hK9 p9 t (by omega) (by omega)).1
              have hk1 := hk p9 t (by omega) (by omega)
              have hl1 := lb_le hk hc6 hc7 (j := N - (p9 + 1)) (t + 1) (by omega)
              refine tg_aload_n C dX0_fillRest_21 22 rfl rfl 0 rfl ?_
              refine tg_get (T := TX0) (N := 6) (Cn := RX0) C 51 (by decide) (e_51 ad cy _) rfl w1 2 (by decide) w3 rfl rfl dX0_fillRest_22 25 rfl ?_
              refine tg_iload_n C dX0_fillRest_25 26 rfl rfl 1 rfl ?_
              refine tg_aald C 71 2 (by decide) ((e_71 ad cy) _) rfl rfl p9 rfl (by omega) (by decide) dX0_fillRest_26 27 rfl ?_
              refine tg_iload_n C dX0_fillRest_27 28 rfl rfl 2 rfl ?_
              refine tg_aload_n C dX0_fillRest_28 29 rfl rfl 0 rfl ?_
              refine tg_get (T := TX0) (N := 6) (Cn := RX0) C 51 (by decide) (e_51 ad cy _) rfl w1 0 (by decide) w4 rfl rfl dX0_fillRest_29 32 rfl ?_
              refine tg_iload_n C dX0_fillRest_32 33 rfl rfl 1 rfl ?_
              refine tg_aald C 52 2 (by decide) ((e_52 ad cy) _) rfl rfl p9 rfl (by omega) (by decide) dX0_fillRest_33 34 rfl ?_
              refine tg_iload_n C dX0_fillRest_34 35 rfl rfl 2 rfl ?_
              refine tg_iald C (53 + p9) (by omega) ((e_rowC ad cy (show p9 < 17 by omega)) _) t rfl (by omega) (by decide) dX0_fillRest_35 36 rfl ?_
              refine tg_top (y := nI (k9 p9 t)) (hrow) ?_
              refine tg_aload_n C dX0_fillRest_36 37 rfl rfl 0 rfl ?_
              refine tg_iload_n C dX0_fillRest_37 38 rfl rfl 1 rfl ?_
              refine tg_iload_n C dX0_fillRest_38 39 rfl rfl 2 rfl ?_
              refine tg_callVi C 51 (by decide) (e_51 ad cy _) rfl (c_X0_leastBehind l D cy ad hDis σ2 hC2 hk (p9 := p9) (t := t) hR2 (by omega) (by omega)) (cwV 2 C.2.2.2.2.1 gX0_fillRest_X0_leastBehind rfl rfl rfl (by decide +kernel) ⟨Nat.le_of_ble_eq_true rfl, Nat.le_of_ble_eq_true rfl⟩) rfl rfl (Nat.le_of_ble_eq_true rfl) ⟨Nat.le_of_ble_eq_true rfl, Nat.le_of_ble_eq_true rfl⟩ dX0_fillRest_39 42 rfl (fun r39 τ39 h39 => ?_)
              obtain ⟨h39, h39s⟩ := h39
              subst h39s
              subst h39
              refine tg_iadd C (nI ((k9 p9 t) + (lb k9 pr tc N (N - (p9 + 1)) (t + 1)))) dX0_fillRest_42 43 rfl (nI_add (k9 p9 t) (lb k9 pr tc N (N - (p9 + 1)) (t + 1))) ?_
              refine tg_iast C (72 + p9) (by omega) (e_rowB ad cy (show p9 < 17 by omega)) t rfl (by omega) (by decide) dX0_fillRest_43 44 rfl ?_
              refine tg_iinc C (nI (t + 1)) dX0_fillRest_44 47 rfl 2 rfl (nI_add t 1) [(2, .int (nI (t + 1))), (0, .ref (ad 51)), (1, .int (nI p9))] (by decide) rfl ?_
              refine tg_goto C 13 dX0_fillRest_47 (by decide) ?_
              refine tg_sub [1, 2, 0] rfl ?_
              refine ih13 (t + 1) (su σ2 (72 + p9) t (nI ((k9 p9 t) + (lb k9 pr tc N (N - (p9 + 1)) (t + 1))))) ⟨by omega, fun u hu => ?_, fun j hj => by rw [su_ni _ _ _ hj]; exact hf2 j hj⟩ (by omega)
              rw [su_ap]
              split
              · rename_i hh
                have e := rb_succ k9 pr tc N (N - (p9 + 1)) t
                rw [show N - (p9 + 1) + 1 = N - p9 by omega, show N - (N - p9) = p9 by omega] at e
                rw [hh.2, e]
              · exact hr u (by omega)
        refine tg_sub [1, 2, 0] rfl ?_
        exact L13 _ 0 σ1 ⟨by omega, fun u h => by omega, fun j _ => rfl⟩ (Nat.lt_succ_self _)
  refine tg_sub [1, 0] rfl ?_
  exact L7 _ N σ ⟨Nat.le_refl _, fun p t h1 h2 => by omega, fun j _ => rfl⟩ (Nat.lt_succ_self _)
set_option maxHeartbeats 4000000 in
set_option maxRecDepth 100000 in
theorem c_X0_leastCost (l : Launch) (D : va_G) (cy : Nat → ClassId) (ad : Nat → Nat) (hDis : Dis ad) (σ : sS) {N tc pr : Nat} (hC : Ct σ N tc pr) {k9 : Nat → Nat → Nat} (hK9 : Cs σ N tc k9) : Mi l yX0_leastCost wsX0_leastCost 5 114 D cy ad [.ref (ad 51)] σ (fun r τ => r = nI (lb k9 pr tc N N 0) ∧ ∀ j, (j < 72 ∨ 89 ≤ j) → τ j = σ j) := by
  have w0 : Cond.fieldLink RX0 23 "Tonguetell$Cutter" "runCount" "I" ∈ wsX0_leastCost := by decide +kernel
  have w1 : ∀ w ∈ wsX00, w ∈ wsX0_leastCost := by decide +kernel
  have w2 : Cond.fieldLink RX0 20 "Tonguetell$Cutter" "rest" "[[I" ∈ wsX0_leastCost := by decide +kernel
  have hC0 := hC
  obtain ⟨hc1, hc2, hc3, hc4, hc5, hc6, hc7⟩ := hC
  have hk : ∀ p t, p < N → t < tc → k9 p t ≤ 10 := fun p t h1 h2 => (hK9 p t h1 h2).2
  refine Mi.of (cc := cX0_leastCost) (nL := 1) (own := RX0) hDis (by decide) rfl [(0, .ref (ad 51))] rfl (Nat.le_of_ble_eq_true rfl) rfl ?_
  intro p e s m args below meth c A Q C hret
  refine tg_aload_n C dX0_leastCost_0 1 rfl rfl 0 rfl ?_
  refine tg_get (T := TX0) (N := 6) (Cn := RX0) C 51 (by decide) (e_51 ad cy _) rfl w1 3 (by decide) w0 rfl rfl dX0_leastCost_1 4 rfl ?_
  refine tg_top (y := nI N) (hC0.1) ?_
  refine tg_if_ne C 9 dX0_leastCost_4 (by decide) 7 rfl (fun c4 => ?_) (fun c4 => ?_)
  · -- to 9
    replace c4 : ¬ N = 0 := fun q => c4 ((z_eq (by omega)).mpr q)
    refine tg_aload_n C dX0_leastCost_9 10 rfl rfl 0 rfl ?_
    refine tg_callVv C 51 (by decide) (e_51 ad cy _) rfl (c_X0_fillRest l D cy ad hDis σ hC0 hK9) (cwV 0 C.2.2.2.2.1 gX0_leastCost_X0_fillRest rfl rfl rfl (by decide +kernel) ⟨Nat.le_of_ble_eq_true rfl, Nat.le_of_ble_eq_true rfl⟩) rfl rfl (Nat.le_of_ble_eq_true rfl) ⟨Nat.le_of_ble_eq_true rfl, Nat.le_of_ble_eq_true rfl⟩ dX0_leastCost_10 13 rfl (fun τ10 h10 => ?_)
    obtain ⟨hR, hf⟩ := h10
    have hC1 : Ct τ10 N tc pr := hC0.fr (hf 51 (by omega))
    have hrow : ∀ t, t < tc → τ10 (72 + 0) t = nI (rb k9 pr tc N N t) ∧ rb k9 pr tc N N t ≤ 100000 := fun t h => ⟨hR 0 t (Nat.le_refl _) (by omega) h, by have := rb_le hk hc6 hc7 N t (by omega) h; omega⟩
    have ham := amin_lt (fun u => rb k9 pr tc N N u + chg pr 0 u) tc hc7
    refine tg_aload_n C dX0_leastCost_13 14 rfl rfl 0 rfl ?_
    refine tg_get (T := TX0) (N := 6) (Cn := RX0) C 51 (by decide) (e_51 ad cy _) rfl w1 2 (by decide) w2 rfl rfl dX0_leastCost_14 17 rfl ?_
    refine tg_iconst C (nI 0) dX0_leastCost_17 18 rfl (by decide) ?_
    refine tg_aald C 71 2 (by decide) ((e_71 ad cy) _) rfl rfl 0 rfl (by omega) (by decide) dX0_leastCost_18 19 rfl ?_
    refine tg_aload_n C dX0_leastCost_19 20 rfl rfl 0 rfl ?_
    refine tg_iconst C (nI 0) dX0_leastCost_20 21 rfl (by decide) ?_
    refine tg_iconst C (-1) dX0_leastCost_21 22 rfl (by decide) ?_
    refine tg_callVi C 51 (by decide) (e_51 ad cy _) rfl (c_X0_cheapest l D cy ad hDis τ10 hC1 (p9 := 0) (b := 0) (f := rb k9 pr tc N N) (by omega) (by omega) hrow) (cwV 2 C.2.2.2.2.1 gX0_leastCost_X0_cheapest rfl rfl rfl (by decide +kernel) ⟨Nat.le_of_ble_eq_true rfl, Nat.le_of_ble_eq_true rfl⟩) rfl rfl (Nat.le_of_ble_eq_true rfl) ⟨Nat.le_of_ble_eq_true rfl, Nat.le_of_ble_eq_true rfl⟩ dX0_leastCost_22 25 rfl (fun r22 τ22 h22 => ?_)
    obtain ⟨h22, h22s⟩ := h22
    subst h22s
    subst h22
    refine tg_iald C (72 + 0) (by omega) ((e_rowB ad cy (show 0 < 17 by omega)) _) (amin (fun u => rb k9 pr tc N N u + chg pr 0 u) tc) rfl (by omega) (by decide) dX0_leastCost_25 26 rfl ?_
    refine tg_top (y := nI (rb k9 pr tc N N (amin (fun u => rb k9 pr tc N N u + chg pr 0 u) tc))) ((hrow _ ham).1) ?_
    exact hret dX0_leastCost_26 ⟨by unfold lb; rw [if_neg c4]; simp [chg], hf⟩
  · -- on
    replace c4 : N = 0 := (z_eq (by omega)).mp c4
    refine tg_iconst C (nI 0) dX0_leastCost_7 8 rfl (by decide) ?_
    exact hret dX0_leastCost_8 ⟨by unfold lb; rw [if_pos c4], fun _ _ => rfl⟩
set_option maxHeartbeats 4000000 in
set_option maxRecDepth 100000 in
theorem c_X0_findToldCut (l : Launch) (D : va_G) (cy : Nat → ClassId) (ad : Nat → Nat) (hDis : Dis ad) (σ : sS) {N tc pr : Nat} (hC : Ct σ N tc pr) {k9 : Nat → Nat → Nat} (hK9 : Cs σ N tc k9) : Mv l yX0_findToldCut wsX0_findToldCut 5 114 D cy ad [.ref (ad 51)] σ (fun τ => (∀ i, i < N → τ 70 i = nI (tdb k9 pr tc N (i + 1) - 1)) ∧ ∀ j, (j < 70 ∨ j = 71 ∨ 89 ≤ j) → j ≠ 71 → τ j = σ j) := by
  have w0 : Cond.fieldLink RX0 23 "Tonguetell$Cutter" "runCount" "I" ∈ wsX0_findToldCut := by decide +kernel
  have w1 : ∀ w ∈ wsX00, w ∈ wsX0_findToldCut := by decide +kernel
  have w2 : Cond.fieldLink RX0 16 "Tonguetell$Cutter" "told" "[I" ∈ wsX0_findToldCut := by decide +kernel
  have hC0 := hC
  obtain ⟨hc1, hc2, hc3, hc4, hc5, hc6, hc7⟩ := hC
  have hk : ∀ p t, p < N → t < tc → k9 p t ≤ 10 := fun p t h1 h2 => (hK9 p t h1 h2).2
  refine Mv.of (cc := cX0_findToldCut) (nL := 3) (own := RX0) hDis (by decide) rfl [(0, .ref (ad 51))] rfl (Nat.le_of_ble_eq_true rfl) rfl ?_
  intro p e s m args below meth c A Q C hret
  refine tg_aload_n C dX0_findToldCut_0 1 rfl rfl 0 rfl ?_
  refine tg_callVv C 51 (by decide) (e_51 ad cy _) rfl (c_X0_fillRest l D cy ad hDis σ hC0 hK9) (cwV 0 C.2.2.2.2.1 gX0_findToldCut_X0_fillRest rfl rfl rfl (by decide +kernel) ⟨Nat.le_of_ble_eq_true rfl, Nat.le_of_ble_eq_true rfl⟩) rfl rfl (Nat.le_of_ble_eq_true rfl) ⟨Nat.le_of_ble_eq_true rfl, Nat.le_of_ble_eq_true rfl⟩ dX0_findToldCut_1 4 rfl (fun τ1 h1 => ?_)
  refine tg_iconst C (-1) dX0_findToldCut_4 5 rfl (by decide) ?_
  refine tg_istore_n C dX0_findToldCut_5 6 rfl rfl [(1, .int ((-1))), (0, .ref (ad 51))] (by decide) rfl ?_
  refine tg_iconst C (nI 0) dX0_findToldCut_6 7 rfl (by decide) ?_
  refine tg_istore_n C dX0_findToldCut_7 8 rfl rfl [(2, .int (nI 0)), (1, .int ((-1))), (0, .ref (ad 51))] (by decide) rfl ?_
  have L8 : ∀ (n8 : Nat) (i : Nat) (σ1 : sS), (i ≤ N ∧ (∀ u, u < i → σ1 70 u = nI (tdb k9 pr tc N (u + 1) - 1)) ∧ Rs σ1 N tc 0 k9 pr ∧ ∀ j, (j < 70 ∨ 89 ≤ j) → σ1 j = σ j) → N - i < n8 → TT p l e (Rm 5 114) s m args below meth c D cy ad A 3 0 0 Q σ1 8 [(0, .ref (ad 51)), (1, .int (bv (tdb k9 pr tc N i))), (2, .int (nI i))] [] := by
    intro n8
    induction n8 with
    | zero => intro i σ1 _ hn8; exact absurd hn8 (Nat.not_lt_zero _)
    | succ n8 ih8 =>
      intro i σ1 ⟨hi, hu, hR, hf⟩ hn8
      have hC1 : Ct σ1 N tc pr := hC0.fr (hf 51 (by omega))
      have htd := tdb_le (k := k9) (pr := pr) (N := N) hc7 i
      refine tg_iload_n C dX0_findToldCut_8 9 rfl rfl 2 rfl ?_
      refine tg_aload_n C dX0_findToldCut_9 10 rfl rfl 0 rfl ?_
      refine tg_get (T := TX0) (N := 6) (Cn := RX0) C 51 (by decide) (e_51 ad cy _) rfl w1 3 (by decide) w0 rfl rfl dX0_findToldCut_10 13 rfl ?_
      refine tg_top (y := nI N) (hC1.1) ?_
      refine tg_icmp_ge C 41 dX0_findToldCut_13 (by decide) 16 rfl (fun c13 => ?_) (fun c13 => ?_)
      · -- to 41
        replace c13 : N ≤ i := (nI_leI (by omega) (by omega)).mp c13
        exact hret dX0_findToldCut_41 ⟨fun i9 h => hu i9 (by omega), fun j hj h71 => hf j (by omega)⟩
      · -- on
        replace c13 : ¬ N ≤ i := fun q => c13 ((nI_leI (by omega) (by omega)).mpr q)
        have hrow : ∀ t, t < tc → σ1 (72 + i) t = nI (rb k9 pr tc N (N - i) t) ∧ rb k9 pr tc N (N - i) t ≤ 100000 := fun t h => ⟨hR i t (Nat.zero_le _) (by omega) h, by have := rb_le hk hc6 hc7 (N - i) t (by omega) h; omega⟩
        have ham := amin_lt (fun u => rb k9 pr tc N (N - i) u + chg pr (tdb k9 pr tc N i) u) tc hc7
        refine tg_aload_n C dX0_findToldCut_16 17 rfl rfl 0 rfl ?_
        refine tg_get (T := TX0) (N := 6) (Cn := RX0) C 51 (by decide) (e_51 ad cy _) rfl w1 1 (by decide) w2 rfl rfl dX0_findToldCut_17 20 rfl ?_
        refine tg_iload_n C dX0_findToldCut_20 21 rfl rfl 2 rfl ?_
        refine tg_aload_n C dX0_findToldCut_21 22 rfl rfl 0 rfl ?_
        refine tg_iload_n C dX0_findToldCut_22 23 rfl rfl 2 rfl ?_
        refine tg_iload_n C dX0_findToldCut_23 24 rfl rfl 1 rfl ?_
        refine tg_callVi C 51 (by decide) (e_51 ad cy _) rfl (c_X0_cheapest l D cy ad hDis σ1 hC1 (p9 := i) (b := tdb k9 pr tc N i) (f := rb k9 pr tc N (N - i)) (by omega) (by omega) hrow) (cwV 2 C.2.2.2.2.1 gX0_findToldCut_X0_cheapest rfl rfl rfl (by decide +kernel) ⟨Nat.le_of_ble_eq_true rfl, Nat.le_of_ble_eq_true rfl⟩) rfl rfl (Nat.le_of_ble_eq_true rfl) ⟨Nat.le_of_ble_eq_true rfl, Nat.le_of_ble_eq_true rfl⟩ dX0_findToldCut_24 27 rfl (fun r24 τ24 h24 => ?_)
        obtain ⟨h24, h24s⟩ := h24
        subst h24s
        subst h24
        refine tg_iast C 70 (by decide) (e_70 ad cy) i rfl (by omega) (by decide) dX0_findToldCut_27 28 rfl ?_
        refine tg_aload_n C dX0_findToldCut_28 29 rfl rfl 0 rfl ?_
        refine tg_get (T := TX0) (N := 6) (Cn := RX0) C 51 (by decide) (e_51 ad cy _) rfl w1 1 (by decide) w2 rfl rfl dX0_findToldCut_29 32 rfl ?_
        refine tg_iload_n C dX0_findToldCut_32 33 rfl rfl 2 rfl ?_
        refine tg_iald C 70 (by decide) ((e_70 ad cy) _) i rfl (by omega) (by decide) dX0_findToldCut_33 34 rfl ?_
        refine tg_top (y := nI (amin (fun u => rb k9 pr tc N (N - i) u + chg pr (tdb k9 pr tc N i) u) tc)) (su_eq _ _ _ _) ?_
        refine tg_istore_n C dX0_findToldCut_34 35 rfl rfl [(1, .int (nI (amin (fun u => rb k9 pr tc N (N - i) u + chg pr (tdb k9 pr tc N i) u) tc))), (0, .ref (ad 51)), (2, .int (nI i))] (by decide) rfl ?_
        refine tg_iinc C (nI (i + 1)) dX0_findToldCut_35 38 rfl 2 rfl (nI_add i 1) [(2, .int (nI (i + 1))), (1, .int (nI (amin (fun u => rb k9 pr tc N (N - i) u + chg pr (tdb k9 pr tc N i) u) tc))), (0, .ref (ad 51))] (by decide) rfl ?_
        refine tg_goto C 8 dX0_findToldCut_38 (by decide) ?_
        refine tg_sub [2, 1, 0] rfl ?_
        exact ih8 (i + 1) (su σ1 70 i (nI (amin (fun u => rb k9 pr tc N (N - i) u + chg pr (tdb k9 pr tc N i) u) tc))) ⟨by omega, fun u hu9 => by
            rw [su_ap]
            split
            · rename_i hh; rw [hh.2]; rfl
            · exact hu u (by omega), hR.fr (fun p _ _ => su_ni _ _ _ (by omega)), fun j hj => by rw [su_ni _ _ _ (by omega)]; exact hf j hj⟩ (by omega)
  refine tg_sub [2, 1, 0] rfl ?_
  exact L8 _ 0 τ1 ⟨by omega, fun u h => by omega, h1.1, fun j hj => h1.2 j (by omega)⟩ (Nat.lt_succ_self _)
def stc (u9 : Nat → Nat) (n : Nat) : Nat := sm (fun i => if i = 0 ∨ u9 i ≠ u9 (i - 1) then 1 else 0) n
set_option maxHeartbeats 4000000 in
set_option maxRecDepth 100000 in
theorem c_X0_stretchCount (l : Launch) (D : va_G) (cy : Nat → ClassId) (ad : Nat → Nat) (hDis : Dis ad) (σ : sS) {N tc pr : Nat} (hC : Ct σ N tc pr) {u9 : Nat → Nat} (hu : ∀ i, i < N → σ 70 i = nI (u9 i) ∧ u9 i ≤ 5) : Mi l yX0_stretchCount wsX0_stretchCount 0 0 D cy ad [.ref (ad 51)] σ (fun r τ => r = nI (stc u9 N) ∧ σ = τ) := by
  have w0 : Cond.fieldLink RX0 23 "Tonguetell$Cutter" "runCount" "I" ∈ wsX0_stretchCount := by decide +kernel
  have w1 : ∀ w ∈ wsX00, w ∈ wsX0_stretchCount := by decide +kernel
  have w2 : Cond.fieldLink RX0 16 "Tonguetell$Cutter" "told" "[I" ∈ wsX0_stretchCount := by decide +kernel
  obtain ⟨hc1, hc2, hc3, hc4, hc5, hc6, hc7⟩ := hC
  refine Mi.of (cc := cX0_stretchCount) (nL := 3) (own := RX0) hDis (by decide) rfl [(0, .ref (ad 51))] rfl (Nat.le_of_ble_eq_true rfl) rfl ?_
  intro p e s m args below meth c A Q C hret
  refine tg_iconst C (nI 0) dX0_stretchCount_0 1 rfl (by decide) ?_
  refine tg_istore_n C dX0_stretchCount_1 2 rfl rfl [(1, .int (nI 0)), (0, .ref (ad 51))] (by decide) rfl ?_
  refine tg_iconst C (nI 0) dX0_stretchCount_2 3 rfl (by decide) ?_
  refine tg_istore_n C dX0_stretchCount_3 4 rfl rfl [(2, .int (nI 0)), (1, .int (nI 0)), (0, .ref (ad 51))] (by decide) rfl ?_
  have L4 : ∀ (n4 : Nat) (i a9 : Nat), (i ≤ N ∧ a9 = stc u9 i ∧ a9 ≤ i) → N - i < n4 → TT p l e (Rm 0 0) s m args below meth c D cy ad A 3 0 0 Q σ 4 [(0, .ref (ad 51)), (1, .int (nI a9)), (2, .int (nI i))] [] := by
    intro n4
    induction n4 with
    | zero => intro i a9 _ hn4; exact absurd hn4 (Nat.not_lt_zero _)
    | succ n4 ih4 =>
      intro i a9 ⟨hi, ha, hb⟩ hn4
      refine tg_iload_n C dX0_stretchCount_4 5 rfl rfl 2 rfl ?_
      refine tg_aload_n C dX0_stretchCount_5 6 rfl rfl 0 rfl ?_
      refine tg_get (T := TX0) (N := 6) (Cn := RX0) C 51 (by decide) (e_51 ad cy _) rfl w1 3 (by decide) w0 rfl rfl dX0_stretchCount_6 9 rfl ?_
      refine tg_top (y := nI N) (hc1) ?_
      refine tg_icmp_ge C 42 dX0_stretchCount_9 (by decide) 12 rfl (fun c9 => ?_) (fun c9 => ?_)
      · -- to 42
        replace c9 : N ≤ i := (nI_leI (by omega) (by omega)).mp c9
        refine tg_iload_n C dX0_stretchCount_42 43 rfl rfl 1 rfl ?_
        exact hret dX0_stretchCount_43 ⟨by rw [ha, show i = N by omega], rfl⟩
      · -- on
        replace c9 : ¬ N ≤ i := fun q => c9 ((nI_leI (by omega) (by omega)).mpr q)
        refine tg_iload_n C dX0_stretchCount_12 13 rfl rfl 2 rfl ?_
        refine tg_if_eq C 33 dX0_stretchCount_13 (by decide) 16 rfl (fun c13 => ?_) (fun c13 => ?_)
        · -- to 33
          replace c13 : i = 0 := (z_eq (by omega)).mp c13
          refine tg_iinc C (nI (a9 + 1)) dX0_stretchCount_33 36 rfl 1 rfl (nI_add a9 1) [(1, .int (nI (a9 + 1))), (0, .ref (ad 51)), (2, .int (nI i))] (by decide) rfl ?_
          refine tg_iinc C (nI (i + 1)) dX0_stretchCount_36 39 rfl 2 rfl (nI_add i 1) [(2, .int (nI (i + 1))), (1, .int (nI (a9 + 1))), (0, .ref (ad 51))] (by decide) rfl ?_
          refine tg_goto C 4 dX0_stretchCount_39 (by decide) ?_
          refine tg_sub [2, 1, 0] rfl ?_
          exact ih4 (i + 1) (a9 + 1) ⟨by omega, by show _ = stc u9 i + (if i = 0 ∨ u9 i ≠ u9 (i - 1) then 1 else 0); rw [if_pos (by omega)]; omega, by omega⟩ (by omega)
        · -- on
          replace c13 : ¬ i = 0 := fun q => c13 ((z_eq (by omega)).mpr q)
          have hu1 := (hu i (by omega)).2
          have hu2 := (hu (i - 1) (by omega)).2
          refine tg_aload_n C dX0_stretchCount_16 17 rfl rfl 0 rfl ?_
          refine tg_get (T := TX0) (N := 6) (Cn := RX0) C 51 (by decide) (e_51 ad cy _) rfl w1 1 (by decide) w2 rfl rfl dX0_stretchCount_17 20 rfl ?_
          refine tg_iload_n C dX0_stretchCount_20 21 rfl rfl 2 rfl ?_
          refine tg_iald C 70 (by decide) ((e_70 ad cy) _) i rfl (by omega) (by decide) dX0_stretchCount_21 22 rfl ?_
          refine tg_top (y := nI (u9 i)) ((hu i (by omega)).1) ?_
          refine tg_aload_n C dX0_stretchCount_22 23 rfl rfl 0 rfl ?_
          refine tg_get (T := TX0) (N := 6) (Cn := RX0) C 51 (by decide) (e_51 ad cy _) rfl w1 1 (by decide) w2 rfl rfl dX0_stretchCount_23 26 rfl ?_
          refine tg_iload_n C dX0_stretchCount_26 27 rfl rfl 2 rfl ?_
          refine tg_iconst C (nI 1) dX0_stretchCount_27 28 rfl (by decide) ?_
          refine tg_isub C (nI (i - 1)) dX0_stretchCount_28 29 rfl (pk_sub (by omega)) ?_
          refine tg_iald C 70 (by decide) ((e_70 ad cy) _) (i - 1) rfl (by omega) (by decide) dX0_stretchCount_29 30 rfl ?_
          refine tg_top (y := nI (u9 (i - 1))) ((hu (i - 1) (by omega)).1) ?_
          refine tg_icmp_eq C 36 dX0_stretchCount_30 (by decide) 33 rfl (fun c30 => ?_) (fun c30 => ?_)
          · -- to 36
            replace c30 : (u9 i) = (u9 (i - 1)) := (nI_eq (by omega) (by omega)).mp c30
            refine tg_iinc C (nI (i + 1)) dX0_stretchCount_36 39 rfl 2 rfl (nI_add i 1) [(2, .int (nI (i + 1))), (0, .ref (ad 51)), (1, .int (nI a9))] (by decide) rfl ?_
            refine tg_goto C 4 dX0_stretchCount_39 (by decide) ?_
            refine tg_sub [1, 2, 0] rfl ?_
            exact ih4 (i + 1) (a9) ⟨by omega, by show _ = stc u9 i + (if i = 0 ∨ u9 i ≠ u9 (i - 1) then 1 else 0); rw [if_neg (by omega)]; omega, by omega⟩ (by omega)
          · -- on
            replace c30 : ¬ (u9 i) = (u9 (i - 1)) := fun q => c30 ((nI_eq (by omega) (by omega)).mpr q)
            refine tg_iinc C (nI (a9 + 1)) dX0_stretchCount_33 36 rfl 1 rfl (nI_add a9 1) [(1, .int (nI (a9 + 1))), (0, .ref (ad 51)), (2, .int (nI i))] (by decide) rfl ?_
            refine tg_iinc C (nI (i + 1)) dX0_stretchCount_36 39 rfl 2 rfl (nI_add i 1) [(2, .int (nI (i + 1))), (1, .int (nI (a9 + 1))), (0, .ref (ad 51))] (by decide) rfl ?_
            refine tg_goto C 4 dX0_stretchCount_39 (by decide) ?_
            refine tg_sub [2, 1, 0] rfl ?_
            exact ih4 (i + 1) (a9 + 1) ⟨by omega, by show _ = stc u9 i + (if i = 0 ∨ u9 i ≠ u9 (i - 1) then 1 else 0); rw [if_pos (by omega)]; omega, by omega⟩ (by omega)
  refine tg_sub [2, 1, 0] rfl ?_
  exact L4 _ 0 0 ⟨by omega, rfl, by omega⟩ (Nat.lt_succ_self _)
set_option maxHeartbeats 4000000 in
set_option maxRecDepth 100000 in
theorem c_X0_lbt_0 (l : Launch) (D : va_G) (cy : Nat → ClassId) (ad : Nat → Nat) (hDis : Dis ad) (σ : sS) {N tc pr : Nat} (hC : Ct σ N tc pr) {k9 : Nat → Nat → Nat} (hK9 : Cs σ N tc k9) (hN6 : N ≤ 6) {p9 b : Nat} (hpj : p9 + 0 = N) (hb : b ≤ tc) : Mi l yX0_leastByTrying wsX0_leastByTrying 0 0 D cy ad [.ref (ad 51), .int (nI p9), .int (bv b)] σ (fun r τ => r = nI (lb k9 pr tc N 0 b) ∧ σ = τ) := by
  have w0 : Cond.fieldLink RX0 23 "Tonguetell$Cutter" "runCount" "I" ∈ wsX0_leastByTrying := by decide +kernel
  have w1 : ∀ w ∈ wsX00, w ∈ wsX0_leastByTrying := by decide +kernel
  have hC0 := hC
  obtain ⟨hc1, hc2, hc3, hc4, hc5, hc6, hc7⟩ := hC
  have hk : ∀ p t, p < N → t < tc → k9 p t ≤ 10 := fun p t h1 h2 => (hK9 p t h1 h2).2
  refine Mi.of (cc := cX0_leastByTrying) (nL := 6) (own := RX0) hDis (by decide) rfl [(0, .ref (ad 51)), (1, .int (nI p9)), (2, .int (bv b))] rfl (Nat.le_of_ble_eq_true rfl) rfl ?_
  intro p e s m args below meth c A Q C hret
  refine tg_iload_n C dX0_leastByTrying_0 1 rfl rfl 1 rfl ?_
  refine tg_aload_n C dX0_leastByTrying_1 2 rfl rfl 0 rfl ?_
  refine tg_get (T := TX0) (N := 6) (Cn := RX0) C 51 (by decide) (e_51 ad cy _) rfl w1 3 (by decide) w0 rfl rfl dX0_leastByTrying_2 5 rfl ?_
  refine tg_top (y := nI N) (hC0.1) ?_
  refine tg_icmp_ge C 13 dX0_leastByTrying_5 (by decide) 8 rfl (fun c5 => ?_) (fun c5 => absurd ((nI_leI (by omega) (by omega)).mpr (by omega)) c5)
  refine tg_iconst C (nI 0) dX0_leastByTrying_13 14 rfl (by decide) ?_
  exact hret dX0_leastByTrying_14 ⟨rfl, rfl⟩
set_option maxHeartbeats 4000000 in
set_option maxRecDepth 100000 in
theorem c_X0_lbt_1 (l : Launch) (D : va_G) (cy : Nat → ClassId) (ad : Nat → Nat) (hDis : Dis ad) (σ : sS) {N tc pr : Nat} (hC : Ct σ N tc pr) {k9 : Nat → Nat → Nat} (hK9 : Cs σ N tc k9) (hN6 : N ≤ 6) {p9 b : Nat} (hpj : p9 + 1 = N) (hb : b ≤ tc) : Mi l yX0_leastByTrying wsX0_leastByTrying 1 25 D cy ad [.ref (ad 51), .int (nI p9), .int (bv b)] σ (fun r τ => r = nI (lb k9 pr tc N 1 b) ∧ σ = τ) := by
  have w0 : Cond.fieldLink RX0 23 "Tonguetell$Cutter" "runCount" "I" ∈ wsX0_leastByTrying := by decide +kernel
  have w1 : ∀ w ∈ wsX00, w ∈ wsX0_leastByTrying := by decide +kernel
  have w2 : Cond.constant RX0 54 (1000000) ∈ wsX0_leastByTrying := by decide +kernel
  have w3 : Cond.fieldLink RX0 27 "Tonguetell$Cutter" "choices" "I" ∈ wsX0_leastByTrying := by decide +kernel
  have w4 : Cond.fieldLink RX0 11 "Tonguetell$Cutter" "costs" "[[I" ∈ wsX0_leastByTrying := by decide +kernel
  have w5 : Cond.methodLink RX0 55 Lib.Math.min.name ∈ wsX0_leastByTrying := by decide +kernel
  have w6 : Cond.static Lib.Math.min.name ∈ wsX0_leastByTrying := by decide +kernel
  have w7 : Cond.initialized "java/lang/Math" ∈ wsX0_leastByTrying := by decide +kernel
  have w8 : Cond.code Lib.Math.min.name Lib.Math.min.code 2 (some .int) ∈ wsX0_leastByTrying := by decide +kernel
  have hC0 := hC
  obtain ⟨hc1, hc2, hc3, hc4, hc5, hc6, hc7⟩ := hC
  have hk : ∀ p t, p < N → t < tc → k9 p t ≤ 10 := fun p t h1 h2 => (hK9 p t h1 h2).2
  refine Mi.of (cc := cX0_leastByTrying) (nL := 6) (own := RX0) hDis (by decide) rfl [(0, .ref (ad 51)), (1, .int (nI p9)), (2, .int (bv b))] rfl (Nat.le_of_ble_eq_true rfl) rfl ?_
  intro p e s m args below meth c A Q C hret
  refine tg_iload_n C dX0_leastByTrying_0 1 rfl rfl 1 rfl ?_
  refine tg_aload_n C dX0_leastByTrying_1 2 rfl rfl 0 rfl ?_
  refine tg_get (T := TX0) (N := 6) (Cn := RX0) C 51 (by decide) (e_51 ad cy _) rfl w1 3 (by decide) w0 rfl rfl dX0_leastByTrying_2 5 rfl ?_
  refine tg_top (y := nI N) (hC0.1) ?_
  refine tg_icmp_ge C 13 dX0_leastByTrying_5 (by decide) 8 rfl (fun c5 => absurd c5 (fun q => absurd ((nI_leI (by omega) (by omega)).mp q) (by omega))) (fun c5 => ?_)
  refine tg_iload_n C dX0_leastByTrying_8 9 rfl rfl 1 rfl ?_
  refine tg_iconst C (nI 5) dX0_leastByTrying_9 10 rfl (by decide) ?_
  refine tg_icmp_le C 15 dX0_leastByTrying_10 (by decide) 13 rfl (fun c10 => ?_) (fun c10 => absurd ((nI_leI (by omega) (by omega)).mpr (by omega)) c10)
  refine tg_ldc C (nI 1000000) dX0_leastByTrying_15 17 rfl w2 ?_
  refine tg_istore_n C dX0_leastByTrying_17 18 rfl rfl [(3, .int (nI 1000000)), (0, .ref (ad 51)), (1, .int (nI p9)), (2, .int (bv b))] (by decide) rfl ?_
  refine tg_iconst C (nI 0) dX0_leastByTrying_18 19 rfl (by decide) ?_
  refine tg_istore C dX0_leastByTrying_19 21 rfl [(4, .int (nI 0)), (3, .int (nI 1000000)), (0, .ref (ad 51)), (1, .int (nI p9)), (2, .int (bv b))] (by decide) rfl ?_
  have L21 : ∀ (n21 : Nat) (t v9 : Nat), (t ≤ tc ∧ ((t = 0 ∧ v9 = 1000000) ∨ (0 < t ∧ v9 = (fun u => rb k9 pr tc N 1 u + chg pr b u) (amin (fun u => rb k9 pr tc N 1 u + chg pr b u) t))) ∧ v9 ≤ 1000000) → tc - t < n21 → TT p l e (Rm 1 25) s m args below meth c D cy ad A 6 0 0 Q σ 21 [(0, .ref (ad 51)), (1, .int (nI p9)), (2, .int (bv b)), (3, .int (nI v9)), (4, .int (nI t))] [] := by
    intro n21
    induction n21 with
    | zero => intro t v9 _ hn21; exact absurd hn21 (Nat.not_lt_zero _)
    | succ n21 ih21 =>
      intro t v9 ⟨ht, hv, hv2⟩ hn21
      refine tg_iload C dX0_leastByTrying_21 23 rfl 4 rfl ?_
      refine tg_aload_n C dX0_leastByTrying_23 24 rfl rfl 0 rfl ?_
      refine tg_get (T := TX0) (N := 6) (Cn := RX0) C 51 (by decide) (e_51 ad cy _) rfl w1 4 (by decide) w3 rfl rfl dX0_leastByTrying_24 27 rfl ?_
      refine tg_top (y := nI tc) (hC0.2.1) ?_
      refine tg_icmp_ge C 72 dX0_leastByTrying_27 (by decide) 30 rfl (fun c27 => ?_) (fun c27 => ?_)
      · -- to 72
        replace c27 : tc ≤ t := (nI_leI (by omega) (by omega)).mp c27
        refine tg_iload_n C dX0_leastByTrying_72 73 rfl rfl 3 rfl ?_
        exact hret dX0_leastByTrying_73 ⟨by rcases hv with hv | hv; omega; rw [hv.2, show t = tc by omega]; unfold lb; rw [if_neg (by decide)], rfl⟩
      · -- on
        replace c27 : ¬ tc ≤ t := fun q => c27 ((nI_leI (by omega) (by omega)).mpr q)
        have hrow : σ (53 + p9) t = nI (k9 p9 t) := (hK9 p9 t (by omega) (by omega)).1
        have hk1 := hk p9 t (by omega) (by omega)
        have hl1 := lb_le hk hc6 hc7 (j := 0) (t + 1) (by omega)
        have hg1 := chg_le pr b t
        refine tg_aload_n C dX0_leastByTrying_30 31 rfl rfl 0 rfl ?_
        refine tg_iload_n C dX0_leastByTrying_31 32 rfl rfl 2 rfl ?_
        refine tg_iload C dX0_leastByTrying_32 34 rfl 4 rfl ?_
        refine tg_callVi C 51 (by decide) (e_51 ad cy _) rfl (c_X0_priceOfChange l D cy ad hDis σ hC0 (b := b) (t := t) (by omega) (by omega)) (cwV 2 C.2.2.2.2.1 gX0_leastByTrying_X0_priceOfChange rfl rfl rfl (by decide +kernel) ⟨Nat.le_of_ble_eq_true rfl, Nat.le_of_ble_eq_true rfl⟩) rfl rfl (Nat.le_of_ble_eq_true rfl) ⟨Nat.le_of_ble_eq_true rfl, Nat.le_of_ble_eq_true rfl⟩ dX0_leastByTrying_34 37 rfl (fun r34 τ34 h34 => ?_)
        obtain ⟨h34, h34s⟩ := h34
        subst h34s
        subst h34
        refine tg_aload_n C dX0_leastByTrying_37 38 rfl rfl 0 rfl ?_
        refine tg_get (T := TX0) (N := 6) (Cn := RX0) C 51 (by decide) (e_51 ad cy _) rfl w1 0 (by decide) w4 rfl rfl dX0_leastByTrying_38 41 rfl ?_
        refine tg_iload_n C dX0_leastByTrying_41 42 rfl rfl 1 rfl ?_
        refine tg_aald C 52 2 (by decide) ((e_52 ad cy) _) rfl rfl p9 rfl (by omega) (by decide) dX0_leastByTrying_42 43 rfl ?_
        refine tg_iload C dX0_leastByTrying_43 45 rfl 4 rfl ?_
        refine tg_iald C (53 + p9) (by omega) ((e_rowC ad cy (show p9 < 17 by omega)) _) t rfl (by omega) (by decide) dX0_leastByTrying_45 46 rfl ?_
        refine tg_top (y := nI (k9 p9 t)) (hrow) ?_
        refine tg_iadd C (nI ((chg pr b t) + (k9 p9 t))) dX0_leastByTrying_46 47 rfl (nI_add (chg pr b t) (k9 p9 t)) ?_
        refine tg_istore C dX0_leastByTrying_47 49 rfl [(5, .int (nI ((chg pr b t) + (k9 p9 t)))), (0, .ref (ad 51)), (1, .int (nI p9)), (2, .int (bv b)), (3, .int (nI v9)), (4, .int (nI t))] (by decide) rfl ?_
        refine tg_iload_n C dX0_leastByTrying_49 50 rfl rfl 4 rfl ?_
        refine tg_iload C dX0_leastByTrying_50 52 rfl 0 rfl ?_
        refine tg_aload_n C dX0_leastByTrying_52 53 rfl rfl 1 rfl ?_
        refine tg_iload_n C dX0_leastByTrying_53 54 rfl rfl 2 rfl ?_
        refine tg_iconst C (nI 1) dX0_leastByTrying_54 55 rfl (by decide) ?_
        refine tg_iadd C (nI (p9 + 1)) dX0_leastByTrying_55 56 rfl (nI_add p9 1) ?_
        refine tg_iload C dX0_leastByTrying_56 58 rfl 5 rfl ?_
        refine tg_callSi C (c_X0_lbt_0 l D cy ad hDis σ hC0 hK9 hN6 (p9 := p9 + 1) (b := t + 1) (by omega) (by omega)) (cwS 3 C.2.2.2.2.1 gX0_leastByTrying_X0_leastByTrying rfl rfl rfl (by decide +kernel) ⟨Nat.le_of_ble_eq_true rfl, Nat.le_of_ble_eq_true rfl⟩) rfl rfl (Nat.le_of_ble_eq_true rfl) ⟨Nat.le_of_ble_eq_true rfl, Nat.le_of_ble_eq_true rfl⟩ dX0_leastByTrying_58 61 rfl (fun r58 τ58 h58 => ?_)
        obtain ⟨h58, h58s⟩ := h58
        subst h58s
        subst h58
        refine tg_iadd C (nI (((chg pr b t) + (k9 p9 t)) + (lb k9 pr tc N 0 (t + 1)))) dX0_leastByTrying_61 62 rfl (nI_add ((chg pr b t) + (k9 p9 t)) (lb k9 pr tc N 0 (t + 1))) ?_
        refine tg_mmin C w5 w6 w7 w8 (Nat.le_of_ble_eq_true rfl) (Nat.le_of_ble_eq_true rfl) ⟨Nat.le_of_ble_eq_true rfl, Nat.le_of_ble_eq_true rfl⟩ dX0_leastByTrying_62 65 rfl ?_
        refine tg_top (y := nI (min v9 (chg pr b t + k9 p9 t + lb k9 pr tc N 0 (t + 1)))) (min_nI (by omega) (by omega)) ?_
        refine tg_istore_n C dX0_leastByTrying_65 66 rfl rfl [(3, .int (nI (min v9 (chg pr b t + k9 p9 t + lb k9 pr tc N 0 (t + 1))))), (5, .int (nI ((chg pr b t) + (k9 p9 t)))), (0, .ref (ad 51)), (1, .int (nI p9)), (2, .int (bv b)), (4, .int (nI t))] (by decide) rfl ?_
        refine tg_iinc C (nI (t + 1)) dX0_leastByTrying_66 69 rfl 5 rfl (nI_add t 1) [(4, .int (nI (t + 1))), (3, .int (nI (min v9 (chg pr b t + k9 p9 t + lb k9 pr tc N 0 (t + 1))))), (5, .int (nI ((chg pr b t) + (k9 p9 t)))), (0, .ref (ad 51)), (1, .int (nI p9)), (2, .int (bv b))] (by decide) rfl ?_
        refine tg_goto C 21 dX0_leastByTrying_69 (by decide) ?_
        refine tg_sub [3, 4, 5, 1, 0] rfl ?_
        have e : rb k9 pr tc N 1 t = k9 p9 t + lb k9 pr tc N 0 (t + 1) := by
          have e := rb_succ k9 pr tc N 0 t
          rw [show N - (0 + 1) = p9 by omega] at e
          exact e
        have ho : chg pr b t + k9 p9 t + lb k9 pr tc N 0 (t + 1) = (fun u => rb k9 pr tc N 1 u + chg pr b u) t := by show _ = rb k9 pr tc N 1 t + chg pr b t; omega
        exact ih21 (t + 1) (min v9 (chg pr b t + k9 p9 t + lb k9 pr tc N 0 (t + 1))) ⟨by omega, Or.inr ⟨by omega, stepMin (g := (fun u => rb k9 pr tc N 1 u + chg pr b u)) hv ho (by omega)⟩, by omega⟩ (by omega)
  refine tg_sub [2, 3, 4, 1, 0] rfl ?_
  exact L21 _ 0 1000000 ⟨by omega, Or.inl ⟨rfl, rfl⟩, Nat.le_refl _⟩ (Nat.lt_succ_self _)
set_option maxHeartbeats 4000000 in
set_option maxRecDepth 100000 in
theorem c_X0_lbt_2 (l : Launch) (D : va_G) (cy : Nat → ClassId) (ad : Nat → Nat) (hDis : Dis ad) (σ : sS) {N tc pr : Nat} (hC : Ct σ N tc pr) {k9 : Nat → Nat → Nat} (hK9 : Cs σ N tc k9) (hN6 : N ≤ 6) {p9 b : Nat} (hpj : p9 + 2 = N) (hb : b ≤ tc) : Mi l yX0_leastByTrying wsX0_leastByTrying 2 50 D cy ad [.ref (ad 51), .int (nI p9), .int (bv b)] σ (fun r τ => r = nI (lb k9 pr tc N 2 b) ∧ σ = τ) := by
  have w0 : Cond.fieldLink RX0 23 "Tonguetell$Cutter" "runCount" "I" ∈ wsX0_leastByTrying := by decide +kernel
  have w1 : ∀ w ∈ wsX00, w ∈ wsX0_leastByTrying := by decide +kernel
  have w2 : Cond.constant RX0 54 (1000000) ∈ wsX0_leastByTrying := by decide +kernel
  have w3 : Cond.fieldLink RX0 27 "Tonguetell$Cutter" "choices" "I" ∈ wsX0_leastByTrying := by decide +kernel
  have w4 : Cond.fieldLink RX0 11 "Tonguetell$Cutter" "costs" "[[I" ∈ wsX0_leastByTrying := by decide +kernel
  have w5 : Cond.methodLink RX0 55 Lib.Math.min.name ∈ wsX0_leastByTrying := by decide +kernel
  have w6 : Cond.static Lib.Math.min.name ∈ wsX0_leastByTrying := by decide +kernel
  have w7 : Cond.initialized "java/lang/Math" ∈ wsX0_leastByTrying := by decide +kernel
  have w8 : Cond.code Lib.Math.min.name Lib.Math.min.code 2 (some .int) ∈ wsX0_leastByTrying := by decide +kernel
  have hC0 := hC
  obtain ⟨hc1, hc2, hc3, hc4, hc5, hc6, hc7⟩ := hC
  have hk : ∀ p t, p < N → t < tc → k9 p t ≤ 10 := fun p t h1 h2 => (hK9 p t h1 h2).2
  refine Mi.of (cc := cX0_leastByTrying) (nL := 6) (own := RX0) hDis (by decide) rfl [(0, .ref (ad 51)), (1, .int (nI p9)), (2, .int (bv b))] rfl (Nat.le_of_ble_eq_true rfl) rfl ?_
  intro p e s m args below meth c A Q C hret
  refine tg_iload_n C dX0_leastByTrying_0 1 rfl rfl 1 rfl ?_
  refine tg_aload_n C dX0_leastByTrying_1 2 rfl rfl 0 rfl ?_
  refine tg_get (T := TX0) (N := 6) (Cn := RX0) C 51 (by decide) (e_51 ad cy _) rfl w1 3 (by decide) w0 rfl rfl dX0_leastByTrying_2 5 rfl ?_
  refine tg_top (y := nI N) (hC0.1) ?_
  refine tg_icmp_ge C 13 dX0_leastByTrying_5 (by decide) 8 rfl (fun c5 => absurd c5 (fun q => absurd ((nI_leI (by omega) (by omega)).mp q) (by omega))) (fun c5 => ?_)
  refine tg_iload_n C dX0_leastByTrying_8 9 rfl rfl 1 rfl ?_
  refine tg_iconst C (nI 5) dX0_leastByTrying_9 10 rfl (by decide) ?_
  refine tg_icmp_le C 15 dX0_leastByTrying_10 (by decide) 13 rfl (fun c10 => ?_) (fun c10 => absurd ((nI_leI (by omega) (by omega)).mpr (by omega)) c10)
  refine tg_ldc C (nI 1000000) dX0_leastByTrying_15 17 rfl w2 ?_
  refine tg_istore_n C dX0_leastByTrying_17 18 rfl rfl [(3, .int (nI 1000000)), (0, .ref (ad 51)), (1, .int (nI p9)), (2, .int (bv b))] (by decide) rfl ?_
  refine tg_iconst C (nI 0) dX0_leastByTrying_18 19 rfl (by decide) ?_
  refine tg_istore C dX0_leastByTrying_19 21 rfl [(4, .int (nI 0)), (3, .int (nI 1000000)), (0, .ref (ad 51)), (1, .int (nI p9)), (2, .int (bv b))] (by decide) rfl ?_
  have L21 : ∀ (n21 : Nat) (t v9 : Nat), (t ≤ tc ∧ ((t = 0 ∧ v9 = 1000000) ∨ (0 < t ∧ v9 = (fun u => rb k9 pr tc N 2 u + chg pr b u) (amin (fun u => rb k9 pr tc N 2 u + chg pr b u) t))) ∧ v9 ≤ 1000000) → tc - t < n21 → TT p l e (Rm 2 50) s m args below meth c D cy ad A 6 0 0 Q σ 21 [(0, .ref (ad 51)), (1, .int (nI p9)), (2, .int (bv b)), (3, .int (nI v9)), (4, .int (nI t))] [] := by
    intro n21
    induction n21 with
    | zero => intro t v9 _ hn21; exact absurd hn21 (Nat.not_lt_zero _)
    | succ n21 ih21 =>
      intro t v9 ⟨ht, hv, hv2⟩ hn21
      refine tg_iload C dX0_leastByTrying_21 23 rfl 4 rfl ?_
      refine tg_aload_n C dX0_leastByTrying_23 24 rfl rfl 0 rfl ?_
      refine tg_get (T := TX0) (N := 6) (Cn := RX0) C 51 (by decide) (e_51 ad cy _) rfl w1 4 (by decide) w3 rfl rfl dX0_leastByTrying_24 27 rfl ?_
      refine tg_top (y := nI tc) (hC0.2.1) ?_
      refine tg_icmp_ge C 72 dX0_leastByTrying_27 (by decide) 30 rfl (fun c27 => ?_) (fun c27 => ?_)
      · -- to 72
        replace c27 : tc ≤ t := (nI_leI (by omega) (by omega)).mp c27
        refine tg_iload_n C dX0_leastByTrying_72 73 rfl rfl 3 rfl ?_
        exact hret dX0_leastByTrying_73 ⟨by rcases hv with hv | hv; omega; rw [hv.2, show t = tc by omega]; unfold lb; rw [if_neg (by decide)], rfl⟩
      · -- on
        replace c27 : ¬ tc ≤ t := fun q => c27 ((nI_leI (by omega) (by omega)).mpr q)
        have hrow : σ (53 + p9) t = nI (k9 p9 t) := (hK9 p9 t (by omega) (by omega)).1
        have hk1 := hk p9 t (by omega) (by omega)
        have hl1 := lb_le hk hc6 hc7 (j := 1) (t + 1) (by omega)
        have hg1 := chg_le pr b t
        refine tg_aload_n C dX0_leastByTrying_30 31 rfl rfl 0 rfl ?_
        refine tg_iload_n C dX0_leastByTrying_31 32 rfl rfl 2 rfl ?_
        refine tg_iload C dX0_leastByTrying_32 34 rfl 4 rfl ?_
        refine tg_callVi C 51 (by decide) (e_51 ad cy _) rfl (c_X0_priceOfChange l D cy ad hDis σ hC0 (b := b) (t := t) (by omega) (by omega)) (cwV 2 C.2.2.2.2.1 gX0_leastByTrying_X0_priceOfChange rfl rfl rfl (by decide +kernel) ⟨Nat.le_of_ble_eq_true rfl, Nat.le_of_ble_eq_true rfl⟩) rfl rfl (Nat.le_of_ble_eq_true rfl) ⟨Nat.le_of_ble_eq_true rfl, Nat.le_of_ble_eq_true rfl⟩ dX0_leastByTrying_34 37 rfl (fun r34 τ34 h34 => ?_)
        obtain ⟨h34, h34s⟩ := h34
        subst h34s
        subst h34
        refine tg_aload_n C dX0_leastByTrying_37 38 rfl rfl 0 rfl ?_
        refine tg_get (T := TX0) (N := 6) (Cn := RX0) C 51 (by decide) (e_51 ad cy _) rfl w1 0 (by decide) w4 rfl rfl dX0_leastByTrying_38 41 rfl ?_
        refine tg_iload_n C dX0_leastByTrying_41 42 rfl rfl 1 rfl ?_
        refine tg_aald C 52 2 (by decide) ((e_52 ad cy) _) rfl rfl p9 rfl (by omega) (by decide) dX0_leastByTrying_42 43 rfl ?_
        refine tg_iload C dX0_leastByTrying_43 45 rfl 4 rfl ?_
        refine tg_iald C (53 + p9) (by omega) ((e_rowC ad cy (show p9 < 17 by omega)) _) t rfl (by omega) (by decide) dX0_leastByTrying_45 46 rfl ?_
        refine tg_top (y := nI (k9 p9 t)) (hrow) ?_
        refine tg_iadd C (nI ((chg pr b t) + (k9 p9 t))) dX0_leastByTrying_46 47 rfl (nI_add (chg pr b t) (k9 p9 t)) ?_
        refine tg_istore C dX0_leastByTrying_47 49 rfl [(5, .int (nI ((chg pr b t) + (k9 p9 t)))), (0, .ref (ad 51)), (1, .int (nI p9)), (2, .int (bv b)), (3, .int (nI v9)), (4, .int (nI t))] (by decide) rfl ?_
        refine tg_iload_n C dX0_leastByTrying_49 50 rfl rfl 4 rfl ?_
        refine tg_iload C dX0_leastByTrying_50 52 rfl 0 rfl ?_
        refine tg_aload_n C dX0_leastByTrying_52 53 rfl rfl 1 rfl ?_
        refine tg_iload_n C dX0_leastByTrying_53 54 rfl rfl 2 rfl ?_
        refine tg_iconst C (nI 1) dX0_leastByTrying_54 55 rfl (by decide) ?_
        refine tg_iadd C (nI (p9 + 1)) dX0_leastByTrying_55 56 rfl (nI_add p9 1) ?_
        refine tg_iload C dX0_leastByTrying_56 58 rfl 5 rfl ?_
        refine tg_callSi C (c_X0_lbt_1 l D cy ad hDis σ hC0 hK9 hN6 (p9 := p9 + 1) (b := t + 1) (by omega) (by omega)) (cwS 3 C.2.2.2.2.1 gX0_leastByTrying_X0_leastByTrying rfl rfl rfl (by decide +kernel) ⟨Nat.le_of_ble_eq_true rfl, Nat.le_of_ble_eq_true rfl⟩) rfl rfl (Nat.le_of_ble_eq_true rfl) ⟨Nat.le_of_ble_eq_true rfl, Nat.le_of_ble_eq_true rfl⟩ dX0_leastByTrying_58 61 rfl (fun r58 τ58 h58 => ?_)
        obtain ⟨h58, h58s⟩ := h58
        subst h58s
        subst h58
        refine tg_iadd C (nI (((chg pr b t) + (k9 p9 t)) + (lb k9 pr tc N 1 (t + 1)))) dX0_leastByTrying_61 62 rfl (nI_add ((chg pr b t) + (k9 p9 t)) (lb k9 pr tc N 1 (t + 1))) ?_
        refine tg_mmin C w5 w6 w7 w8 (Nat.le_of_ble_eq_true rfl) (Nat.le_of_ble_eq_true rfl) ⟨Nat.le_of_ble_eq_true rfl, Nat.le_of_ble_eq_true rfl⟩ dX0_leastByTrying_62 65 rfl ?_
        refine tg_top (y := nI (min v9 (chg pr b t + k9 p9 t + lb k9 pr tc N 1 (t + 1)))) (min_nI (by omega) (by omega)) ?_
        refine tg_istore_n C dX0_leastByTrying_65 66 rfl rfl [(3, .int (nI (min v9 (chg pr b t + k9 p9 t + lb k9 pr tc N 1 (t + 1))))), (5, .int (nI ((chg pr b t) + (k9 p9 t)))), (0, .ref (ad 51)), (1, .int (nI p9)), (2, .int (bv b)), (4, .int (nI t))] (by decide) rfl ?_
        refine tg_iinc C (nI (t + 1)) dX0_leastByTrying_66 69 rfl 5 rfl (nI_add t 1) [(4, .int (nI (t + 1))), (3, .int (nI (min v9 (chg pr b t + k9 p9 t + lb k9 pr tc N 1 (t + 1))))), (5, .int (nI ((chg pr b t) + (k9 p9 t)))), (0, .ref (ad 51)), (1, .int (nI p9)), (2, .int (bv b))] (by decide) rfl ?_
        refine tg_goto C 21 dX0_leastByTrying_69 (by decide) ?_
        refine tg_sub [3, 4, 5, 1, 0] rfl ?_
        have e : rb k9 pr tc N 2 t = k9 p9 t + lb k9 pr tc N 1 (t + 1) := by
          have e := rb_succ k9 pr tc N 1 t
          rw [show N - (1 + 1) = p9 by omega] at e
          exact e
        have ho : chg pr b t + k9 p9 t + lb k9 pr tc N 1 (t + 1) = (fun u => rb k9 pr tc N 2 u + chg pr b u) t := by show _ = rb k9 pr tc N 2 t + chg pr b t; omega
        exact ih21 (t + 1) (min v9 (chg pr b t + k9 p9 t + lb k9 pr tc N 1 (t + 1))) ⟨by omega, Or.inr ⟨by omega, stepMin (g := (fun u => rb k9 pr tc N 2 u + chg pr b u)) hv ho (by omega)⟩, by omega⟩ (by omega)
  refine tg_sub [2, 3, 4, 1, 0] rfl ?_
  exact L21 _ 0 1000000 ⟨by omega, Or.inl ⟨rfl, rfl⟩, Nat.le_refl _⟩ (Nat.lt_succ_self _)
set_option maxHeartbeats 4000000 in
set_option maxRecDepth 100000 in
theorem c_X0_lbt_3 (l : Launch) (D : va_G) (cy : Nat → ClassId) (ad : Nat → Nat) (hDis : Dis ad) (σ : sS) {N tc pr : Nat} (hC : Ct σ N tc pr) {k9 : Nat → Nat → Nat} (hK9 : Cs σ N tc k9) (hN6 : N ≤ 6) {p9 b : Nat} (hpj : p9 + 3 = N) (hb : b ≤ tc) : Mi l yX0_leastByTrying wsX0_leastByTrying 3 75 D cy ad [.ref (ad 51), .int (nI p9), .int (bv b)] σ (fun r τ => r = nI (lb k9 pr tc N 3 b) ∧ σ = τ) := by
  have w0 : Cond.fieldLink RX0 23 "Tonguetell$Cutter" "runCount" "I" ∈ wsX0_leastByTrying := by decide +kernel
  have w1 : ∀ w ∈ wsX00, w ∈ wsX0_leastByTrying := by decide +kernel
  have w2 : Cond.constant RX0 54 (1000000) ∈ wsX0_leastByTrying := by decide +kernel
  have w3 : Cond.fieldLink RX0 27 "Tonguetell$Cutter" "choices" "I" ∈ wsX0_leastByTrying := by decide +kernel
  have w4 : Cond.fieldLink RX0 11 "Tonguetell$Cutter" "costs" "[[I" ∈ wsX0_leastByTrying := by decide +kernel
  have w5 : Cond.methodLink RX0 55 Lib.Math.min.name ∈ wsX0_leastByTrying := by decide +kernel
  have w6 : Cond.static Lib.Math.min.name ∈ wsX0_leastByTrying := by decide +kernel
  have w7 : Cond.initialized "java/lang/Math" ∈ wsX0_leastByTrying := by decide +kernel
  have w8 : Cond.code Lib.Math.min.name Lib.Math.min.code 2 (some .int) ∈ wsX0_leastByTrying := by decide +kernel
  have hC0 := hC
  obtain ⟨hc1, hc2, hc3, hc4, hc5, hc6, hc7⟩ := hC
  have hk : ∀ p t, p < N → t < tc → k9 p t ≤ 10 := fun p t h1 h2 => (hK9 p t h1 h2).2
  refine Mi.of (cc := cX0_leastByTrying) (nL := 6) (own := RX0) hDis (by decide) rfl [(0, .ref (ad 51)), (1, .int (nI p9)), (2, .int (bv b))] rfl (Nat.le_of_ble_eq_true rfl) rfl ?_
  intro p e s m args below meth c A Q C hret
  refine tg_iload_n C dX0_leastByTrying_0 1 rfl rfl 1 rfl ?_
  refine tg_aload_n C dX0_leastByTrying_1 2 rfl rfl 0 rfl ?_
  refine tg_get (T := TX0) (N := 6) (Cn := RX0) C 51 (by decide) (e_51 ad cy _) rfl w1 3 (by decide) w0 rfl rfl dX0_leastByTrying_2 5 rfl ?_
  refine tg_top (y := nI N) (hC0.1) ?_
  refine tg_icmp_ge C 13 dX0_leastByTrying_5 (by decide) 8 rfl (fun c5 => absurd c5 (fun q => absurd ((nI_leI (by omega) (by omega)).mp q) (by omega))) (fun c5 => ?_)
  refine tg_iload_n C dX0_leastByTrying_8 9 rfl rfl 1 rfl ?_
  refine tg_iconst C (nI 5) dX0_leastByTrying_9 10 rfl (by decide) ?_
  refine tg_icmp_le C 15 dX0_leastByTrying_10 (by decide) 13 rfl (fun c10 => ?_) (fun c10 => absurd ((nI_leI (by omega) (by omega)).mpr (by omega)) c10)
  refine tg_ldc C (nI 1000000) dX0_leastByTrying_15 17 rfl w2 ?_
  refine tg_istore_n C dX0_leastByTrying_17 18 rfl rfl [(3, .int (nI 1000000)), (0, .ref (ad 51)), (1, .int (nI p9)), (2, .int (bv b))] (by decide) rfl ?_
  refine tg_iconst C (nI 0) dX0_leastByTrying_18 19 rfl (by decide) ?_
  refine tg_istore C dX0_leastByTrying_19 21 rfl [(4, .int (nI 0)), (3, .int (nI 1000000)), (0, .ref (ad 51)), (1, .int (nI p9)), (2, .int (bv b))] (by decide) rfl ?_
  have L21 : ∀ (n21 : Nat) (t v9 : Nat), (t ≤ tc ∧ ((t = 0 ∧ v9 = 1000000) ∨ (0 < t ∧ v9 = (fun u => rb k9 pr tc N 3 u + chg pr b u) (amin (fun u => rb k9 pr tc N 3 u + chg pr b u) t))) ∧ v9 ≤ 1000000) → tc - t < n21 → TT p l e (Rm 3 75) s m args below meth c D cy ad A 6 0 0 Q σ 21 [(0, .ref (ad 51)), (1, .int (nI p9)), (2, .int (bv b)), (3, .int (nI v9)), (4, .int (nI t))] [] := by
    intro n21
    induction n21 with
    | zero => intro t v9 _ hn21; exact absurd hn21 (Nat.not_lt_zero _)
    | succ n21 ih21 =>
      intro t v9 ⟨ht, hv, hv2⟩ hn21
      refine tg_iload C dX0_leastByTrying_21 23 rfl 4 rfl ?_
      refine tg_aload_n C dX0_leastByTrying_23 24 rfl rfl 0 rfl ?_
      refine tg_get (T := TX0) (N := 6) (Cn := RX0) C 51 (by decide) (e_51 ad cy _) rfl w1 4 (by decide) w3 rfl rfl dX0_leastByTrying_24 27 rfl ?_
      refine tg_top (y := nI tc) (hC0.2.1) ?_
      refine tg_icmp_ge C 72 dX0_leastByTrying_27 (by decide) 30 rfl (fun c27 => ?_) (fun c27 => ?_)
      · -- to 72
        replace c27 : tc ≤ t := (nI_leI (by omega) (by omega)).mp c27
        refine tg_iload_n C dX0_leastByTrying_72 73 rfl rfl 3 rfl ?_
        exact hret dX0_leastByTrying_73 ⟨by rcases hv with hv | hv; omega; rw [hv.2, show t = tc by omega]; unfold lb; rw [if_neg (by decide)], rfl⟩
      · -- on
        replace c27 : ¬ tc ≤ t := fun q => c27 ((nI_leI (by omega) (by omega)).mpr q)
        have hrow : σ (53 + p9) t = nI (k9 p9 t) := (hK9 p9 t (by omega) (by omega)).1
        have hk1 := hk p9 t (by omega) (by omega)
        have hl1 := lb_le hk hc6 hc7 (j := 2) (t + 1) (by omega)
        have hg1 := chg_le pr b t
        refine tg_aload_n C dX0_leastByTrying_30 31 rfl rfl 0 rfl ?_
        refine tg_iload_n C dX0_leastByTrying_31 32 rfl rfl 2 rfl ?_
        refine tg_iload C dX0_leastByTrying_32 34 rfl 4 rfl ?_
        refine tg_callVi C 51 (by decide) (e_51 ad cy _) rfl (c_X0_priceOfChange l D cy ad hDis σ hC0 (b := b) (t := t) (by omega) (by omega)) (cwV 2 C.2.2.2.2.1 gX0_leastByTrying_X0_priceOfChange rfl rfl rfl (by decide +kernel) ⟨Nat.le_of_ble_eq_true rfl, Nat.le_of_ble_eq_true rfl⟩) rfl rfl (Nat.le_of_ble_eq_true rfl) ⟨Nat.le_of_ble_eq_true rfl, Nat.le_of_ble_eq_true rfl⟩ dX0_leastByTrying_34 37 rfl (fun r34 τ34 h34 => ?_)
        obtain ⟨h34, h34s⟩ := h34
        subst h34s
        subst h34
        refine tg_aload_n C dX0_leastByTrying_37 38 rfl rfl 0 rfl ?_
        refine tg_get (T := TX0) (N := 6) (Cn := RX0) C 51 (by decide) (e_51 ad cy _) rfl w1 0 (by decide) w4 rfl rfl dX0_leastByTrying_38 41 rfl ?_
        refine tg_iload_n C dX0_leastByTrying_41 42 rfl rfl 1 rfl ?_
        refine tg_aald C 52 2 (by decide) ((e_52 ad cy) _) rfl rfl p9 rfl (by omega) (by decide) dX0_leastByTrying_42 43 rfl ?_
        refine tg_iload C dX0_leastByTrying_43 45 rfl 4 rfl ?_
        refine tg_iald C (53 + p9) (by omega) ((e_rowC ad cy (show p9 < 17 by omega)) _) t rfl (by omega) (by decide) dX0_leastByTrying_45 46 rfl ?_
        refine tg_top (y := nI (k9 p9 t)) (hrow) ?_
        refine tg_iadd C (nI ((chg pr b t) + (k9 p9 t))) dX0_leastByTrying_46 47 rfl (nI_add (chg pr b t) (k9 p9 t)) ?_
        refine tg_istore C dX0_leastByTrying_47 49 rfl [(5, .int (nI ((chg pr b t) + (k9 p9 t)))), (0, .ref (ad 51)), (1, .int (nI p9)), (2, .int (bv b)), (3, .int (nI v9)), (4, .int (nI t))] (by decide) rfl ?_
        refine tg_iload_n C dX0_leastByTrying_49 50 rfl rfl 4 rfl ?_
        refine tg_iload C dX0_leastByTrying_50 52 rfl 0 rfl ?_
        refine tg_aload_n C dX0_leastByTrying_52 53 rfl rfl 1 rfl ?_
        refine tg_iload_n C dX0_leastByTrying_53 54 rfl rfl 2 rfl ?_
        refine tg_iconst C (nI 1) dX0_leastByTrying_54 55 rfl (by decide) ?_
        refine tg_iadd C (nI (p9 + 1)) dX0_leastByTrying_55 56 rfl (nI_add p9 1) ?_
        refine tg_iload C dX0_leastByTrying_56 58 rfl 5 rfl ?_
        refine tg_callSi C (c_X0_lbt_2 l D cy ad hDis σ hC0 hK9 hN6 (p9 := p9 + 1) (b := t + 1) (by omega) (by omega)) (cwS 3 C.2.2.2.2.1 gX0_leastByTrying_X0_leastByTrying rfl rfl rfl (by decide +kernel) ⟨Nat.le_of_ble_eq_true rfl, Nat.le_of_ble_eq_true rfl⟩) rfl rfl (Nat.le_of_ble_eq_true rfl) ⟨Nat.le_of_ble_eq_true rfl, Nat.le_of_ble_eq_true rfl⟩ dX0_leastByTrying_58 61 rfl (fun r58 τ58 h58 => ?_)
        obtain ⟨h58, h58s⟩ := h58
        subst h58s
        subst h58
        refine tg_iadd C (nI (((chg pr b t) + (k9 p9 t)) + (lb k9 pr tc N 2 (t + 1)))) dX0_leastByTrying_61 62 rfl (nI_add ((chg pr b t) + (k9 p9 t)) (lb k9 pr tc N 2 (t + 1))) ?_
        refine tg_mmin C w5 w6 w7 w8 (Nat.le_of_ble_eq_true rfl) (Nat.le_of_ble_eq_true rfl) ⟨Nat.le_of_ble_eq_true rfl, Nat.le_of_ble_eq_true rfl⟩ dX0_leastByTrying_62 65 rfl ?_
        refine tg_top (y := nI (min v9 (chg pr b t + k9 p9 t + lb k9 pr tc N 2 (t + 1)))) (min_nI (by omega) (by omega)) ?_
        refine tg_istore_n C dX0_leastByTrying_65 66 rfl rfl [(3, .int (nI (min v9 (chg pr b t + k9 p9 t + lb k9 pr tc N 2 (t + 1))))), (5, .int (nI ((chg pr b t) + (k9 p9 t)))), (0, .ref (ad 51)), (1, .int (nI p9)), (2, .int (bv b)), (4, .int (nI t))] (by decide) rfl ?_
        refine tg_iinc C (nI (t + 1)) dX0_leastByTrying_66 69 rfl 5 rfl (nI_add t 1) [(4, .int (nI (t + 1))), (3, .int (nI (min v9 (chg pr b t + k9 p9 t + lb k9 pr tc N 2 (t + 1))))), (5, .int (nI ((chg pr b t) + (k9 p9 t)))), (0, .ref (ad 51)), (1, .int (nI p9)), (2, .int (bv b))] (by decide) rfl ?_
        refine tg_goto C 21 dX0_leastByTrying_69 (by decide) ?_
        refine tg_sub [3, 4, 5, 1, 0] rfl ?_
        have e : rb k9 pr tc N 3 t = k9 p9 t + lb k9 pr tc N 2 (t + 1) := by
          have e := rb_succ k9 pr tc N 2 t
          rw [show N - (2 + 1) = p9 by omega] at e
          exact e
        have ho : chg pr b t + k9 p9 t + lb k9 pr tc N 2 (t + 1) = (fun u => rb k9 pr tc N 3 u + chg pr b u) t := by show _ = rb k9 pr tc N 3 t + chg pr b t; omega
        exact ih21 (t + 1) (min v9 (chg pr b t + k9 p9 t + lb k9 pr tc N 2 (t + 1))) ⟨by omega, Or.inr ⟨by omega, stepMin (g := (fun u => rb k9 pr tc N 3 u + chg pr b u)) hv ho (by omega)⟩, by omega⟩ (by omega)
  refine tg_sub [2, 3, 4, 1, 0] rfl ?_
  exact L21 _ 0 1000000 ⟨by omega, Or.inl ⟨rfl, rfl⟩, Nat.le_refl _⟩ (Nat.lt_succ_self _)
set_option maxHeartbeats 4000000 in
set_option maxRecDepth 100000 in
theorem c_X0_lbt_4 (l : Launch) (D : va_G) (cy : Nat → ClassId) (ad : Nat → Nat) (hDis : Dis ad) (σ : sS) {N tc pr : Nat} (hC : Ct σ N tc pr) {k9 : Nat → Nat → Nat} (hK9 : Cs σ N tc k9) (hN6 : N ≤ 6) {p9 b : Nat} (hpj : p9 + 4 = N) (hb : b ≤ tc) : Mi l yX0_leastByTrying wsX0_leastByTrying 4 100 D cy ad [.ref (ad 51), .int (nI p9), .int (bv b)] σ (fun r τ => r = nI (lb k9 pr tc N 4 b) ∧ σ = τ) := by
  have w0 : Cond.fieldLink RX0 23 "Tonguetell$Cutter" "runCount" "I" ∈ wsX0_leastByTrying := by decide +kernel
  have w1 : ∀ w ∈ wsX00, w ∈ wsX0_leastByTrying := by decide +kernel
  have w2 : Cond.constant RX0 54 (1000000) ∈ wsX0_leastByTrying := by decide +kernel
  have w3 : Cond.fieldLink RX0 27 "Tonguetell$Cutter" "choices" "I" ∈ wsX0_leastByTrying := by decide +kernel
  have w4 : Cond.fieldLink RX0 11 "Tonguetell$Cutter" "costs" "[[I" ∈ wsX0_leastByTrying := by decide +kernel
  have w5 : Cond.methodLink RX0 55 Lib.Math.min.name ∈ wsX0_leastByTrying := by decide +kernel
  have w6 : Cond.static Lib.Math.min.name ∈ wsX0_leastByTrying := by decide +kernel
  have w7 : Cond.initialized "java/lang/Math" ∈ wsX0_leastByTrying := by decide +kernel
  have w8 : Cond.code Lib.Math.min.name Lib.Math.min.code 2 (some .int) ∈ wsX0_leastByTrying := by decide +kernel
  have hC0 := hC
  obtain ⟨hc1, hc2, hc3, hc4, hc5, hc6, hc7⟩ := hC
  have hk : ∀ p t, p < N → t < tc → k9 p t ≤ 10 := fun p t h1 h2 => (hK9 p t h1 h2).2
  refine Mi.of (cc := cX0_leastByTrying) (nL := 6) (own := RX0) hDis (by decide) rfl [(0, .ref (ad 51)), (1, .int (nI p9)), (2, .int (bv b))] rfl (Nat.le_of_ble_eq_true rfl) rfl ?_
  intro p e s m args below meth c A Q C hret
  refine tg_iload_n C dX0_leastByTrying_0 1 rfl rfl 1 rfl ?_
  refine tg_aload_n C dX0_leastByTrying_1 2 rfl rfl 0 rfl ?_
  refine tg_get (T := TX0) (N := 6) (Cn := RX0) C 51 (by decide) (e_51 ad cy _) rfl w1 3 (by decide) w0 rfl rfl dX0_leastByTrying_2 5 rfl ?_
  refine tg_top (y := nI N) (hC0.1) ?_
  refine tg_icmp_ge C 13 dX0_leastByTrying_5 (by decide) 8 rfl (fun c5 => absurd c5 (fun q => absurd ((nI_leI (by omega) (by omega)).mp q) (by omega))) (fun c5 => ?_)
  refine tg_iload_n C dX0_leastByTrying_8 9 rfl rfl 1 rfl ?_
  refine tg_iconst C (nI 5) dX0_leastByTrying_9 10 rfl (by decide) ?_
  refine tg_icmp_le C 15 dX0_leastByTrying_10 (by decide) 13 rfl (fun c10 => ?_) (fun c10 => absurd ((nI_leI (by omega) (by omega)).mpr (by omega)) c10)
  refine tg_ldc C (nI 1000000) dX0_leastByTrying_15 17 rfl w2 ?_
  refine tg_istore_n C dX0_leastByTrying_17 18 rfl rfl [(3, .int (nI 1000000)), (0, .ref (ad 51)), (1, .int (nI p9)), (2, .int (bv b))] (by decide) rfl ?_
  refine tg_iconst C (nI 0) dX0_leastByTrying_18 19 rfl (by decide) ?_
  refine tg_istore C dX0_leastByTrying_19 21 rfl [(4, .int (nI 0)), (3, .int (nI 1000000)), (0, .ref (ad 51)), (1, .int (nI p9)), (2, .int (bv b))] (by decide) rfl ?_
  have L21 : ∀ (n21 : Nat) (t v9 : Nat), (t ≤ tc ∧ ((t = 0 ∧ v9 = 1000000) ∨ (0 < t ∧ v9 = (fun u => rb k9 pr tc N 4 u + chg pr b u) (amin (fun u => rb k9 pr tc N 4 u + chg pr b u) t))) ∧ v9 ≤ 1000000) → tc - t < n21 → TT p l e (Rm 4 100) s m args below meth c D cy ad A 6 0 0 Q σ 21 [(0, .ref (ad 51)), (1, .int (nI p9)), (2, .int (bv b)), (3, .int (nI v9)), (4, .int (nI t))] [] := by
    intro n21
    induction n21 with
    | zero => intro t v9 _ hn21; exact absurd hn21 (Nat.not_lt_zero _)
    | succ n21 ih21 =>
      intro t v9 ⟨ht, hv, hv2⟩ hn21
      refine tg_iload C dX0_leastByTrying_21 23 rfl 4 rfl ?_
      refine tg_aload_n C dX0_leastByTrying_23 24 rfl rfl 0 rfl ?_
      refine tg_get (T := TX0) (N := 6) (Cn := RX0) C 51 (by decide) (e_51 ad cy _) rfl w1 4 (by decide) w3 rfl rfl dX0_leastByTrying_24 27 rfl ?_
      refine tg_top (y := nI tc) (hC0.2.1) ?_
      refine tg_icmp_ge C 72 dX0_leastByTrying_27 (by decide) 30 rfl (fun c27 => ?_) (fun c27 => ?_)
      · -- to 72
        replace c27 : tc ≤ t := (nI_leI (by omega) (by omega)).mp c27
        refine tg_iload_n C dX0_leastByTrying_72 73 rfl rfl 3 rfl ?_
        exact hret dX0_leastByTrying_73 ⟨by rcases hv with hv | hv; omega; rw [hv.2, show t = tc by omega]; unfold lb; rw [if_neg (by decide)], rfl⟩
      · -- on
        replace c27 : ¬ tc ≤ t := fun q => c27 ((nI_leI (by omega) (by omega)).mpr q)
        have hrow : σ (53 + p9) t = nI (k9 p9 t) := (hK9 p9 t (by omega) (by omega)).1
        have hk1 := hk p9 t (by omega) (by omega)
        have hl1 := lb_le hk hc6 hc7 (j := 3) (t + 1) (by omega)
        have hg1 := chg_le pr b t
        refine tg_aload_n C dX0_leastByTrying_30 31 rfl rfl 0 rfl ?_
        refine tg_iload_n C dX0_leastByTrying_31 32 rfl rfl 2 rfl ?_
        refine tg_iload C dX0_leastByTrying_32 34 rfl 4 rfl ?_
        refine tg_callVi C 51 (by decide) (e_51 ad cy _) rfl (c_X0_priceOfChange l D cy ad hDis σ hC0 (b := b) (t := t) (by omega) (by omega)) (cwV 2 C.2.2.2.2.1 gX0_leastByTrying_X0_priceOfChange rfl rfl rfl (by decide +kernel) ⟨Nat.le_of_ble_eq_true rfl, Nat.le_of_ble_eq_true rfl⟩) rfl rfl (Nat.le_of_ble_eq_true rfl) ⟨Nat.le_of_ble_eq_true rfl, Nat.le_of_ble_eq_true rfl⟩ dX0_leastByTrying_34 37 rfl (fun r34 τ34 h34 => ?_)
        obtain ⟨h34, h34s⟩ := h34
        subst h34s
        subst h34
        refine tg_aload_n C dX0_leastByTrying_37 38 rfl rfl 0 rfl ?_
        refine tg_get (T := TX0) (N := 6) (Cn := RX0) C 51 (by decide) (e_51 ad cy _) rfl w1 0 (by decide) w4 rfl rfl dX0_leastByTrying_38 41 rfl ?_
        refine tg_iload_n C dX0_leastByTrying_41 42 rfl rfl 1 rfl ?_
        refine tg_aald C 52 2 (by decide) ((e_52 ad cy) _) rfl rfl p9 rfl (by omega) (by decide) dX0_leastByTrying_42 43 rfl ?_
        refine tg_iload C dX0_leastByTrying_43 45 rfl 4 rfl ?_
        refine tg_iald C (53 + p9) (by omega) ((e_rowC ad cy (show p9 < 17 by omega)) _) t rfl (by omega) (by decide) dX0_leastByTrying_45 46 rfl ?_
        refine tg_top (y := nI (k9 p9 t)) (hrow) ?_
        refine tg_iadd C (nI ((chg pr b t) + (k9 p9 t))) dX0_leastByTrying_46 47 rfl (nI_add (chg pr b t) (k9 p9 t)) ?_
        refine tg_istore C dX0_leastByTrying_47 49 rfl [(5, .int (nI ((chg pr b t) + (k9 p9 t)))), (0, .ref (ad 51)), (1, .int (nI p9)), (2, .int (bv b)), (3, .int (nI v9)), (4, .int (nI t))] (by decide) rfl ?_
        refine tg_iload_n C dX0_leastByTrying_49 50 rfl rfl 4 rfl ?_
        refine tg_iload C dX0_leastByTrying_50 52 rfl 0 rfl ?_
        refine tg_aload_n C dX0_leastByTrying_52 53 rfl rfl 1 rfl ?_
        refine tg_iload_n C dX0_leastByTrying_53 54 rfl rfl 2 rfl ?_
        refine tg_iconst C (nI 1) dX0_leastByTrying_54 55 rfl (by decide) ?_
        refine tg_iadd C (nI (p9 + 1)) dX0_leastByTrying_55 56 rfl (nI_add p9 1) ?_
        refine tg_iload C dX0_leastByTrying_56 58 rfl 5 rfl ?_
        refine tg_callSi C (c_X0_lbt_3 l D cy ad hDis σ hC0 hK9 hN6 (p9 := p9 + 1) (b := t + 1) (by omega) (by omega)) (cwS 3 C.2.2.2.2.1 gX0_leastByTrying_X0_leastByTrying rfl rfl rfl (by decide +kernel) ⟨Nat.le_of_ble_eq_true rfl, Nat.le_of_ble_eq_true rfl⟩) rfl rfl (Nat.le_of_ble_eq_true rfl) ⟨Nat.le_of_ble_eq_true rfl, Nat.le_of_ble_eq_true rfl⟩ dX0_leastByTrying_58 61 rfl (fun r58 τ58 h58 => ?_)
        obtain ⟨h58, h58s⟩ := h58
        subst h58s
        subst h58
        refine tg_iadd C (nI (((chg pr b t) + (k9 p9 t)) + (lb k9 pr tc N 3 (t + 1)))) dX0_leastByTrying_61 62 rfl (nI_add ((chg pr b t) + (k9 p9 t)) (lb k9 pr tc N 3 (t + 1))) ?_
        refine tg_mmin C w5 w6 w7 w8 (Nat.le_of_ble_eq_true rfl) (Nat.le_of_ble_eq_true rfl) ⟨Nat.le_of_ble_eq_true rfl, Nat.le_of_ble_eq_true rfl⟩ dX0_leastByTrying_62 65 rfl ?_
        refine tg_top (y := nI (min v9 (chg pr b t + k9 p9 t + lb k9 pr tc N 3 (t + 1)))) (min_nI (by omega) (by omega)) ?_
        refine tg_istore_n C dX0_leastByTrying_65 66 rfl rfl [(3, .int (nI (min v9 (chg pr b t + k9 p9 t + lb k9 pr tc N 3 (t + 1))))), (5, .int (nI ((chg pr b t) + (k9 p9 t)))), (0, .ref (ad 51)), (1, .int (nI p9)), (2, .int (bv b)), (4, .int (nI t))] (by decide) rfl ?_
        refine tg_iinc C (nI (t + 1)) dX0_leastByTrying_66 69 rfl 5 rfl (nI_add t 1) [(4, .int (nI (t + 1))), (3, .int (nI (min v9 (chg pr b t + k9 p9 t + lb k9 pr tc N 3 (t + 1))))), (5, .int (nI ((chg pr b t) + (k9 p9 t)))), (0, .ref (ad 51)), (1, .int (nI p9)), (2, .int (bv b))] (by decide) rfl ?_
        refine tg_goto C 21 dX0_leastByTrying_69 (by decide) ?_
        refine tg_sub [3, 4, 5, 1, 0] rfl ?_
        have e : rb k9 pr tc N 4 t = k9 p9 t + lb k9 pr tc N 3 (t + 1) := by
          have e := rb_succ k9 pr tc N 3 t
          rw [show N - (3 + 1) = p9 by omega] at e
          exact e
        have ho : chg pr b t + k9 p9 t + lb k9 pr tc N 3 (t + 1) = (fun u => rb k9 pr tc N 4 u + chg pr b u) t := by show _ = rb k9 pr tc N 4 t + chg pr b t; omega
        exact ih21 (t + 1) (min v9 (chg pr b t + k9 p9 t + lb k9 pr tc N 3 (t + 1))) ⟨by omega, Or.inr ⟨by omega, stepMin (g := (fun u => rb k9 pr tc N 4 u + chg pr b u)) hv ho (by omega)⟩, by omega⟩ (by omega)
  refine tg_sub [2, 3, 4, 1, 0] rfl ?_
  exact L21 _ 0 1000000 ⟨by omega, Or.inl ⟨rfl, rfl⟩, Nat.le_refl _⟩ (Nat.lt_succ_self _)
set_option maxHeartbeats 4000000 in
set_option maxRecDepth 100000 in
theorem c_X0_lbt_5 (l : Launch) (D : va_G) (cy : Nat → ClassId) (ad : Nat → Nat) (hDis : Dis ad) (σ : sS) {N tc pr : Nat} (hC : Ct σ N tc pr) {k9 : Nat → Nat → Nat} (hK9 : Cs σ N tc k9) (hN6 : N ≤ 6) {p9 b : Nat} (hpj : p9 + 5 = N) (hb : b ≤ tc) : Mi l yX0_leastByTrying wsX0_leastByTrying 5 125 D cy ad [.ref (ad 51), .int (nI p9), .int (bv b)] σ (fun r τ => r = nI (lb k9 pr tc N 5 b) ∧ σ = τ) := by
  have w0 : Cond.fieldLink RX0 23 "Tonguetell$Cutter" "runCount" "I" ∈ wsX0_leastByTrying := by decide +kernel
  have w1 : ∀ w ∈ wsX00, w ∈ wsX0_leastByTrying := by decide +kernel
  have w2 : Cond.constant RX0 54 (1000000) ∈ wsX0_leastByTrying := by decide +kernel
  have w3 : Cond.fieldLink RX0 27 "Tonguetell$Cutter" "choices" "I" ∈ wsX0_leastByTrying := by decide +kernel
  have w4 : Cond.fieldLink RX0 11 "Tonguetell$Cutter" "costs" "[[I" ∈ wsX0_leastByTrying := by decide +kernel
  have w5 : Cond.methodLink RX0 55 Lib.Math.min.name ∈ wsX0_leastByTrying := by decide +kernel
  have w6 : Cond.static Lib.Math.min.name ∈ wsX0_leastByTrying := by decide +kernel
  have w7 : Cond.initialized "java/lang/Math" ∈ wsX0_leastByTrying := by decide +kernel
  have w8 : Cond.code Lib.Math.min.name Lib.Math.min.code 2 (some .int) ∈ wsX0_leastByTrying := by decide +kernel
  have hC0 := hC
  obtain ⟨hc1, hc2, hc3, hc4, hc5, hc6, hc7⟩ := hC
  have hk : ∀ p t, p < N → t < tc → k9 p t ≤ 10 := fun p t h1 h2 => (hK9 p t h1 h2).2
  refine Mi.of (cc := cX0_leastByTrying) (nL := 6) (own := RX0) hDis (by decide) rfl [(0, .ref (ad 51)), (1, .int (nI p9)), (2, .int (bv b))] rfl (Nat.le_of_ble_eq_true rfl) rfl ?_
  intro p e s m args below meth c A Q C hret
  refine tg_iload_n C dX0_leastByTrying_0 1 rfl rfl 1 rfl ?_
  refine tg_aload_n C dX0_leastByTrying_1 2 rfl rfl 0 rfl ?_
  refine tg_get (T := TX0) (N := 6) (Cn := RX0) C 51 (by decide) (e_51 ad cy _) rfl w1 3 (by decide) w0 rfl rfl dX0_leastByTrying_2 5 rfl ?_
  refine tg_top (y := nI N) (hC0.1) ?_
  refine tg_icmp_ge C 13 dX0_leastByTrying_5 (by decide) 8 rfl (fun c5 => absurd c5 (fun q => absurd ((nI_leI (by omega) (by omega)).mp q) (by omega))) (fun c5 => ?_)
  refine tg_iload_n C dX0_leastByTrying_8 9 rfl rfl 1 rfl ?_
  refine tg_iconst C (nI 5) dX0_leastByTrying_9 10 rfl (by decide) ?_
  refine tg_icmp_le C 15 dX0_leastByTrying_10 (by decide) 13 rfl (fun c10 => ?_) (fun c10 => absurd ((nI_leI (by omega) (by omega)).mpr (by omega)) c10)
  refine tg_ldc C (nI 1000000) dX0_leastByTrying_15 17 rfl w2 ?_
  refine tg_istore_n C dX0_leastByTrying_17 18 rfl rfl [(3, .int (nI 1000000)), (0, .ref (ad 51)), (1, .int (nI p9)), (2, .int (bv b))] (by decide) rfl ?_
  refine tg_iconst C (nI 0) dX0_leastByTrying_18 19 rfl (by decide) ?_
  refine tg_istore C dX0_leastByTrying_19 21 rfl [(4, .int (nI 0)), (3, .int (nI 1000000)), (0, .ref (ad 51)), (1, .int (nI p9)), (2, .int (bv b))] (by decide) rfl ?_
  have L21 : ∀ (n21 : Nat) (t v9 : Nat), (t ≤ tc ∧ ((t = 0 ∧ v9 = 1000000) ∨ (0 < t ∧ v9 = (fun u => rb k9 pr tc N 5 u + chg pr b u) (amin (fun u => rb k9 pr tc N 5 u + chg pr b u) t))) ∧ v9 ≤ 1000000) → tc - t < n21 → TT p l e (Rm 5 125) s m args below meth c D cy ad A 6 0 0 Q σ 21 [(0, .ref (ad 51)), (1, .int (nI p9)), (2, .int (bv b)), (3, .int (nI v9)), (4, .int (nI t))] [] := by
    intro n21
    induction n21 with
    | zero => intro t v9 _ hn21; exact absurd hn21 (Nat.not_lt_zero _)
    | succ n21 ih21 =>
      intro t v9 ⟨ht, hv, hv2⟩ hn21
      refine tg_iload C dX0_leastByTrying_21 23 rfl 4 rfl ?_
      refine tg_aload_n C dX0_leastByTrying_23 24 rfl rfl 0 rfl ?_
      refine tg_get (T := TX0) (N := 6) (Cn := RX0) C 51 (by decide) (e_51 ad cy _) rfl w1 4 (by decide) w3 rfl rfl dX0_leastByTrying_24 27 rfl ?_
      refine tg_top (y := nI tc) (hC0.2.1) ?_
      refine tg_icmp_ge C 72 dX0_leastByTrying_27 (by decide) 30 rfl (fun c27 => ?_) (fun c27 => ?_)
      · -- to 72
        replace c27 : tc ≤ t := (nI_leI (by omega) (by omega)).mp c27
        refine tg_iload_n C dX0_leastByTrying_72 73 rfl rfl 3 rfl ?_
        exact hret dX0_leastByTrying_73 ⟨by rcases hv with hv | hv; omega; rw [hv.2, show t = tc by omega]; unfold lb; rw [if_neg (by decide)], rfl⟩
      · -- on
        replace c27 : ¬ tc ≤ t := fun q => c27 ((nI_leI (by omega) (by omega)).mpr q)
        have hrow : σ (53 + p9) t = nI (k9 p9 t) := (hK9 p9 t (by omega) (by omega)).1
        have hk1 := hk p9 t (by omega) (by omega)
        have hl1 := lb_le hk hc6 hc7 (j := 4) (t + 1) (by omega)
        have hg1 := chg_le pr b t
        refine tg_aload_n C dX0_leastByTrying_30 31 rfl rfl 0 rfl ?_
        refine tg_iload_n C dX0_leastByTrying_31 32 rfl rfl 2 rfl ?_
        refine tg_iload C dX0_leastByTrying_32 34 rfl 4 rfl ?_
        refine tg_callVi C 51 (by decide) (e_51 ad cy _) rfl (c_X0_priceOfChange l D cy ad hDis σ hC0 (b := b) (t := t) (by omega) (by omega)) (cwV 2 C.2.2.2.2.1 gX0_leastByTrying_X0_priceOfChange rfl rfl rfl (by decide +kernel) ⟨Nat.le_of_ble_eq_true rfl, Nat.le_of_ble_eq_true rfl⟩) rfl rfl (Nat.le_of_ble_eq_true rfl) ⟨Nat.le_of_ble_eq_true rfl, Nat.le_of_ble_eq_true rfl⟩ dX0_leastByTrying_34 37 rfl (fun r34 τ34 h34 => ?_)
        obtain ⟨h34, h34s⟩ := h34
        subst h34s
        subst h34
        refine tg_aload_n C dX0_leastByTrying_37 38 rfl rfl 0 rfl ?_
        refine tg_get (T := TX0) (N := 6) (Cn := RX0) C 51 (by decide) (e_51 ad cy _) rfl w1 0 (by decide) w4 rfl rfl dX0_leastByTrying_38 41 rfl ?_
        refine tg_iload_n C dX0_leastByTrying_41 42 rfl rfl 1 rfl ?_
        refine tg_aald C 52 2 (by decide) ((e_52 ad cy) _) rfl rfl p9 rfl (by omega) (by decide) dX0_leastByTrying_42 43 rfl ?_
        refine tg_iload C dX0_leastByTrying_43 45 rfl 4 rfl ?_
        refine tg_iald C (53 + p9) (by omega) ((e_rowC ad cy (show p9 < 17 by omega)) _) t rfl (by omega) (by decide) dX0_leastByTrying_45 46 rfl ?_
        refine tg_top (y := nI (k9 p9 t)) (hrow) ?_
        refine tg_iadd C (nI ((chg pr b t) + (k9 p9 t))) dX0_leastByTrying_46 47 rfl (nI_add (chg pr b t) (k9 p9 t)) ?_
        refine tg_istore C dX0_leastByTrying_47 49 rfl [(5, .int (nI ((chg pr b t) + (k9 p9 t)))), (0, .ref (ad 51)), (1, .int (nI p9)), (2, .int (bv b)), (3, .int (nI v9)), (4, .int (nI t))] (by decide) rfl ?_
        refine tg_iload_n C dX0_leastByTrying_49 50 rfl rfl 4 rfl ?_
        refine tg_iload C dX0_leastByTrying_50 52 rfl 0 rfl ?_
        refine tg_aload_n C dX0_leastByTrying_52 53 rfl rfl 1 rfl ?_
        refine tg_iload_n C dX0_leastByTrying_53 54 rfl rfl 2 rfl ?_
        refine tg_iconst C (nI 1) dX0_leastByTrying_54 55 rfl (by decide) ?_
        refine tg_iadd C (nI (p9 + 1)) dX0_leastByTrying_55 56 rfl (nI_add p9 1) ?_
        refine tg_iload C dX0_leastByTrying_56 58 rfl 5 rfl ?_
        refine tg_callSi C (c_X0_lbt_4 l D cy ad hDis σ hC0 hK9 hN6 (p9 := p9 + 1) (b := t + 1) (by omega) (by omega)) (cwS 3 C.2.2.2.2.1 gX0_leastByTrying_X0_leastByTrying rfl rfl rfl (by decide +kernel) ⟨Nat.le_of_ble_eq_true rfl, Nat.le_of_ble_eq_true rfl⟩) rfl rfl (Nat.le_of_ble_eq_true rfl) ⟨Nat.le_of_ble_eq_true rfl, Nat.le_of_ble_eq_true rfl⟩ dX0_leastByTrying_58 61 rfl (fun r58 τ58 h58 => ?_)
        obtain ⟨h58, h58s⟩ := h58
        subst h58s
        subst h58
        refine tg_iadd C (nI (((chg pr b t) + (k9 p9 t)) + (lb k9 pr tc N 4 (t + 1)))) dX0_leastByTrying_61 62 rfl (nI_add ((chg pr b t) + (k9 p9 t)) (lb k9 pr tc N 4 (t + 1))) ?_
        refine tg_mmin C w5 w6 w7 w8 (Nat.le_of_ble_eq_true rfl) (Nat.le_of_ble_eq_true rfl) ⟨Nat.le_of_ble_eq_true rfl, Nat.le_of_ble_eq_true rfl⟩ dX0_leastByTrying_62 65 rfl ?_
        refine tg_top (y := nI (min v9 (chg pr b t + k9 p9 t + lb k9 pr tc N 4 (t + 1)))) (min_nI (by omega) (by omega)) ?_
        refine tg_istore_n C dX0_leastByTrying_65 66 rfl rfl [(3, .int (nI (min v9 (chg pr b t + k9 p9 t + lb k9 pr tc N 4 (t + 1))))), (5, .int (nI ((chg pr b t) + (k9 p9 t)))), (0, .ref (ad 51)), (1, .int (nI p9)), (2, .int (bv b)), (4, .int (nI t))] (by decide) rfl ?_
        refine tg_iinc C (nI (t + 1)) dX0_leastByTrying_66 69 rfl 5 rfl (nI_add t 1) [(4, .int (nI (t + 1))), (3, .int (nI (min v9 (chg pr b t + k9 p9 t + lb k9 pr tc N 4 (t + 1))))), (5, .int (nI ((chg pr b t) + (k9 p9 t)))), (0, .ref (ad 51)), (1, .int (nI p9)), (2, .int (bv b))] (by decide) rfl ?_
        refine tg_goto C 21 dX0_leastByTrying_69 (by decide) ?_
        refine tg_sub [3, 4, 5, 1, 0] rfl ?_
        have e : rb k9 pr tc N 5 t = k9 p9 t + lb k9 pr tc N 4 (t + 1) := by
          have e := rb_succ k9 pr tc N 4 t
          rw [show N - (4 + 1) = p9 by omega] at e
          exact e
        have ho : chg pr b t + k9 p9 t + lb k9 pr tc N 4 (t + 1) = (fun u => rb k9 pr tc N 5 u + chg pr b u) t := by show _ = rb k9 pr tc N 5 t + chg pr b t; omega
        exact ih21 (t + 1) (min v9 (chg pr b t + k9 p9 t + lb k9 pr tc N 4 (t + 1))) ⟨by omega, Or.inr ⟨by omega, stepMin (g := (fun u => rb k9 pr tc N 5 u + chg pr b u)) hv ho (by omega)⟩, by omega⟩ (by omega)
  refine tg_sub [2, 3, 4, 1, 0] rfl ?_
  exact L21 _ 0 1000000 ⟨by omega, Or.inl ⟨rfl, rfl⟩, Nat.le_refl _⟩ (Nat.lt_succ_self _)
set_option maxHeartbeats 4000000 in
set_option maxRecDepth 100000 in
theorem c_X0_lbt_6 (l : Launch) (D : va_G) (cy : Nat → ClassId) (ad : Nat → Nat) (hDis : Dis ad) (σ : sS) {N tc pr : Nat} (hC : Ct σ N tc pr) {k9 : Nat → Nat → Nat} (hK9 : Cs σ N tc k9) (hN6 : N ≤ 6) {p9 b : Nat} (hpj : p9 + 6 = N) (hb : b ≤ tc) : Mi l yX0_leastByTrying wsX0_leastByTrying 6 150 D cy ad [.ref (ad 51), .int (nI p9), .int (bv b)] σ (fun r τ => r = nI (lb k9 pr tc N 6 b) ∧ σ = τ) := by
  have w0 : Cond.fieldLink RX0 23 "Tonguetell$Cutter" "runCount" "I" ∈ wsX0_leastByTrying := by decide +kernel
  have w1 : ∀ w ∈ wsX00, w ∈ wsX0_leastByTrying := by decide +kernel
  have w2 : Cond.constant RX0 54 (1000000) ∈ wsX0_leastByTrying := by decide +kernel
  have w3 : Cond.fieldLink RX0 27 "Tonguetell$Cutter" "choices" "I" ∈ wsX0_leastByTrying := by decide +kernel
  have w4 : Cond.fieldLink RX0 11 "Tonguetell$Cutter" "costs" "[[I" ∈ wsX0_leastByTrying := by decide +kernel
  have w5 : Cond.methodLink RX0 55 Lib.Math.min.name ∈ wsX0_leastByTrying := by decide +kernel
  have w6 : Cond.static Lib.Math.min.name ∈ wsX0_leastByTrying := by decide +kernel
  have w7 : Cond.initialized "java/lang/Math" ∈ wsX0_leastByTrying := by decide +kernel
  have w8 : Cond.code Lib.Math.min.name Lib.Math.min.code 2 (some .int) ∈ wsX0_leastByTrying := by decide +kernel
  have hC0 := hC
  obtain ⟨hc1, hc2, hc3, hc4, hc5, hc6, hc7⟩ := hC
  have hk : ∀ p t, p < N → t < tc → k9 p t ≤ 10 := fun p t h1 h2 => (hK9 p t h1 h2).2
  refine Mi.of (cc := cX0_leastByTrying) (nL := 6) (own := RX0) hDis (by decide) rfl [(0, .ref (ad 51)), (1, .int (nI p9)), (2, .int (bv b))] rfl (Nat.le_of_ble_eq_true rfl) rfl ?_
  intro p e s m args below meth c A Q C hret
  refine tg_iload_n C dX0_leastByTrying_0 1 rfl rfl 1 rfl ?_
  refine tg_aload_n C dX0_leastByTrying_1 2 rfl rfl 0 rfl ?_
  refine tg_get (T := TX0) (N := 6) (Cn := RX0) C 51 (by decide) (e_51 ad cy _) rfl w1 3 (by decide) w0 rfl rfl dX0_leastByTrying_2 5 rfl ?_
  refine tg_top (y := nI N) (hC0.1) ?_
  refine tg_icmp_ge C 13 dX0_leastByTrying_5 (by decide) 8 rfl (fun c5 => absurd c5 (fun q => absurd ((nI_leI (by omega) (by omega)).mp q) (by omega))) (fun c5 => ?_)
  refine tg_iload_n C dX0_leastByTrying_8 9 rfl rfl 1 rfl ?_
  refine tg_iconst C (nI 5) dX0_leastByTrying_9 10 rfl (by decide) ?_
  refine tg_icmp_le C 15 dX0_leastByTrying_10 (by decide) 13 rfl (fun c10 => ?_) (fun c10 => absurd ((nI_leI (by omega) (by omega)).mpr (by omega)) c10)
  refine tg_ldc C (nI 1000000) dX0_leastByTrying_15 17 rfl w2 ?_
  refine tg_istore_n C dX0_leastByTrying_17 18 rfl rfl [(3, .int (nI 1000000)), (0, .ref (ad 51)), (1, .int (nI p9)), (2, .int (bv b))] (by decide) rfl ?_
  refine tg_iconst C (nI 0) dX0_leastByTrying_18 19 rfl (by decide) ?_
  refine tg_istore C dX0_leastByTrying_19 21 rfl [(4, .int (nI 0)), (3, .int (nI 1000000)), (0, .ref (ad 51)), (1, .int (nI p9)), (2, .int (bv b))] (by decide) rfl ?_
  have L21 : ∀ (n21 : Nat) (t v9 : Nat), (t ≤ tc ∧ ((t = 0 ∧ v9 = 1000000) ∨ (0 < t ∧ v9 = (fun u => rb k9 pr tc N 6 u + chg pr b u) (amin (fun u => rb k9 pr tc N 6 u + chg pr b u) t))) ∧ v9 ≤ 1000000) → tc - t < n21 → TT p l e (Rm 6 150) s m args below meth c D cy ad A 6 0 0 Q σ 21 [(0, .ref (ad 51)), (1, .int (nI p9)), (2, .int (bv b)), (3, .int (nI v9)), (4, .int (nI t))] [] := by
    intro n21
    induction n21 with
    | zero => intro t v9 _ hn21; exact absurd hn21 (Nat.not_lt_zero _)
    | succ n21 ih21 =>
      intro t v9 ⟨ht, hv, hv2⟩ hn21
      refine tg_iload C dX0_leastByTrying_21 23 rfl 4 rfl ?_
      refine tg_aload_n C dX0_leastByTrying_23 24 rfl rfl 0 rfl ?_
      refine tg_get (T := TX0) (N := 6) (Cn := RX0) C 51 (by decide) (e_51 ad cy _) rfl w1 4 (by decide) w3 rfl rfl dX0_leastByTrying_24 27 rfl ?_
      refine tg_top (y := nI tc) (hC0.2.1) ?_
      refine tg_icmp_ge C 72 dX0_leastByTrying_27 (by decide) 30 rfl (fun c27 => ?_) (fun c27 => ?_)
      · -- to 72
        replace c27 : tc ≤ t := (nI_leI (by omega) (by omega)).mp c27
        refine tg_iload_n C dX0_leastByTrying_72 73 rfl rfl 3 rfl ?_
        exact hret dX0_leastByTrying_73 ⟨by rcases hv with hv | hv; omega; rw [hv.2, show t = tc by omega]; unfold lb; rw [if_neg (by decide)], rfl⟩
      · -- on
        replace c27 : ¬ tc ≤ t := fun q => c27 ((nI_leI (by omega) (by omega)).mpr q)
        have hrow : σ (53 + p9) t = nI (k9 p9 t) := (hK9 p9 t (by omega) (by omega)).1
        have hk1 := hk p9 t (by omega) (by omega)
        have hl1 := lb_le hk hc6 hc7 (j := 5) (t + 1) (by omega)
        have hg1 := chg_le pr b t
        refine tg_aload_n C dX0_leastByTrying_30 31 rfl rfl 0 rfl ?_
        refine tg_iload_n C dX0_leastByTrying_31 32 rfl rfl 2 rfl ?_
        refine tg_iload C dX0_leastByTrying_32 34 rfl 4 rfl ?_
        refine tg_callVi C 51 (by decide) (e_51 ad cy _) rfl (c_X0_priceOfChange l D cy ad hDis σ hC0 (b := b) (t := t) (by omega) (by omega)) (cwV 2 C.2.2.2.2.1 gX0_leastByTrying_X0_priceOfChange rfl rfl rfl (by decide +kernel) ⟨Nat.le_of_ble_eq_true rfl, Nat.le_of_ble_eq_true rfl⟩) rfl rfl (Nat.le_of_ble_eq_true rfl) ⟨Nat.le_of_ble_eq_true rfl, Nat.le_of_ble_eq_true rfl⟩ dX0_leastByTrying_34 37 rfl (fun r34 τ34 h34 => ?_)
        obtain ⟨h34, h34s⟩ := h34
        subst h34s
        subst h34
        refine tg_aload_n C dX0_leastByTrying_37 38 rfl rfl 0 rfl ?_
        refine tg_get (T := TX0) (N := 6) (Cn := RX0) C 51 (by decide) (e_51 ad cy _) rfl w1 0 (by decide) w4 rfl rfl dX0_leastByTrying_38 41 rfl ?_
        refine tg_iload_n C dX0_leastByTrying_41 42 rfl rfl 1 rfl ?_
        refine tg_aald C 52 2 (by decide) ((e_52 ad cy) _) rfl rfl p9 rfl (by omega) (by decide) dX0_leastByTrying_42 43 rfl ?_
        refine tg_iload C dX0_leastByTrying_43 45 rfl 4 rfl ?_
        refine tg_iald C (53 + p9) (by omega) ((e_rowC ad cy (show p9 < 17 by omega)) _) t rfl (by omega) (by decide) dX0_leastByTrying_45 46 rfl ?_
        refine tg_top (y := nI (k9 p9 t)) (hrow) ?_
        refine tg_iadd C (nI ((chg pr b t) + (k9 p9 t))) dX0_leastByTrying_46 47 rfl (nI_add (chg pr b t) (k9 p9 t)) ?_
        refine tg_istore C dX0_leastByTrying_47 49 rfl [(5, .int (nI ((chg pr b t) + (k9 p9 t)))), (0, .ref (ad 51)), (1, .int (nI p9)), (2, .int (bv b)), (3, .int (nI v9)), (4, .int (nI t))] (by decide) rfl ?_
        refine tg_iload_n C dX0_leastByTrying_49 50 rfl rfl 4 rfl ?_
        refine tg_iload C dX0_leastByTrying_50 52 rfl 0 rfl ?_
        refine tg_aload_n C dX0_leastByTrying_52 53 rfl rfl 1 rfl ?_
        refine tg_iload_n C dX0_leastByTrying_53 54 rfl rfl 2 rfl ?_
        refine tg_iconst C (nI 1) dX0_leastByTrying_54 55 rfl (by decide) ?_
        refine tg_iadd C (nI (p9 + 1)) dX0_leastByTrying_55 56 rfl (nI_add p9 1) ?_
        refine tg_iload C dX0_leastByTrying_56 58 rfl 5 rfl ?_
        refine tg_callSi C (c_X0_lbt_5 l D cy ad hDis σ hC0 hK9 hN6 (p9 := p9 + 1) (b := t + 1) (by omega) (by omega)) (cwS 3 C.2.2.2.2.1 gX0_leastByTrying_X0_leastByTrying rfl rfl rfl (by decide +kernel) ⟨Nat.le_of_ble_eq_true rfl, Nat.le_of_ble_eq_true rfl⟩) rfl rfl (Nat.le_of_ble_eq_true rfl) ⟨Nat.le_of_ble_eq_true rfl, Nat.le_of_ble_eq_true rfl⟩ dX0_leastByTrying_58 61 rfl (fun r58 τ58 h58 => ?_)
        obtain ⟨h58, h58s⟩ := h58
        subst h58s
        subst h58
        refine tg_iadd C (nI (((chg pr b t) + (k9 p9 t)) + (lb k9 pr tc N 5 (t + 1)))) dX0_leastByTrying_61 62 rfl (nI_add ((chg pr b t) + (k9 p9 t)) (lb k9 pr tc N 5 (t + 1))) ?_
        refine tg_mmin C w5 w6 w7 w8 (Nat.le_of_ble_eq_true rfl) (Nat.le_of_ble_eq_true rfl) ⟨Nat.le_of_ble_eq_true rfl, Nat.le_of_ble_eq_true rfl⟩ dX0_leastByTrying_62 65 rfl ?_
        refine tg_top (y := nI (min v9 (chg pr b t + k9 p9 t + lb k9 pr tc N 5 (t + 1)))) (min_nI (by omega) (by omega)) ?_
        refine tg_istore_n C dX0_leastByTrying_65 66 rfl rfl [(3, .int (nI (min v9 (chg pr b t + k9 p9 t + lb k9 pr tc N 5 (t + 1))))), (5, .int (nI ((chg pr b t) + (k9 p9 t)))), (0, .ref (ad 51)), (1, .int (nI p9)), (2, .int (bv b)), (4, .int (nI t))] (by decide) rfl ?_
        refine tg_iinc C (nI (t + 1)) dX0_leastByTrying_66 69 rfl 5 rfl (nI_add t 1) [(4, .int (nI (t + 1))), (3, .int (nI (min v9 (chg pr b t + k9 p9 t + lb k9 pr tc N 5 (t + 1))))), (5, .int (nI ((chg pr b t) + (k9 p9 t)))), (0, .ref (ad 51)), (1, .int (nI p9)), (2, .int (bv b))] (by decide) rfl ?_
        refine tg_goto C 21 dX0_leastByTrying_69 (by decide) ?_
        refine tg_sub [3, 4, 5, 1, 0] rfl ?_
        have e : rb k9 pr tc N 6 t = k9 p9 t + lb k9 pr tc N 5 (t + 1) := by
          have e := rb_succ k9 pr tc N 5 t
          rw [show N - (5 + 1) = p9 by omega] at e
          exact e
        have ho : chg pr b t + k9 p9 t + lb k9 pr tc N 5 (t + 1) = (fun u => rb k9 pr tc N 6 u + chg pr b u) t := by show _ = rb k9 pr tc N 6 t + chg pr b t; omega
        exact ih21 (t + 1) (min v9 (chg pr b t + k9 p9 t + lb k9 pr tc N 5 (t + 1))) ⟨by omega, Or.inr ⟨by omega, stepMin (g := (fun u => rb k9 pr tc N 6 u + chg pr b u)) hv ho (by omega)⟩, by omega⟩ (by omega)
  refine tg_sub [2, 3, 4, 1, 0] rfl ?_
  exact L21 _ 0 1000000 ⟨by omega, Or.inl ⟨rfl, rfl⟩, Nat.le_refl _⟩ (Nat.lt_succ_self _)
set_option maxHeartbeats 4000000 in
set_option maxRecDepth 100000 in
theorem c_X0_leastCostByTrying_0 (l : Launch) (D : va_G) (cy : Nat → ClassId) (ad : Nat → Nat) (hDis : Dis ad) (σ : sS) {N tc pr : Nat} (hC : Ct σ N tc pr) {k9 : Nat → Nat → Nat} (hK9 : Cs σ N tc k9) (hN : N = 0) : Mi l yX0_leastCostByTrying wsX0_leastCostByTrying 7 175 D cy ad [.ref (ad 51)] σ (fun r τ => r = nI (lb k9 pr tc N N 0) ∧ σ = τ) := by
  refine Mi.of (cc := cX0_leastCostByTrying) (nL := 1) (own := RX0) hDis (by decide) rfl [(0, .ref (ad 51))] rfl (Nat.le_of_ble_eq_true rfl) rfl ?_
  intro p e s m args below meth c A Q C hret
  refine tg_aload_n C dX0_leastCostByTrying_0 1 rfl rfl 0 rfl ?_
  refine tg_iconst C (nI 0) dX0_leastCostByTrying_1 2 rfl (by decide) ?_
  refine tg_iconst C (-1) dX0_leastCostByTrying_2 3 rfl (by decide) ?_
  refine tg_callSi C (c_X0_lbt_0 l D cy ad hDis σ hC hK9 (by omega) (p9 := 0) (b := 0) (by omega) (by omega)) (cwS 3 C.2.2.2.2.1 gX0_leastCostByTrying_X0_leastByTrying rfl rfl rfl (by decide +kernel) ⟨Nat.le_of_ble_eq_true rfl, Nat.le_of_ble_eq_true rfl⟩) rfl rfl (Nat.le_of_ble_eq_true rfl) ⟨Nat.le_of_ble_eq_true rfl, Nat.le_of_ble_eq_true rfl⟩ dX0_leastCostByTrying_3 6 rfl (fun r3 τ3 h3 => ?_)
  obtain ⟨h3, h3s⟩ := h3
  subst h3s
  subst h3
  exact hret dX0_leastCostByTrying_6 ⟨by rw [hN], rfl⟩
set_option maxHeartbeats 4000000 in
set_option maxRecDepth 100000 in
theorem c_X0_leastCostByTrying_1 (l : Launch) (D : va_G) (cy : Nat → ClassId) (ad : Nat → Nat) (hDis : Dis ad) (σ : sS) {N tc pr : Nat} (hC : Ct σ N tc pr) {k9 : Nat → Nat → Nat} (hK9 : Cs σ N tc k9) (hN : N = 1) : Mi l yX0_leastCostByTrying wsX0_leastCostByTrying 7 175 D cy ad [.ref (ad 51)] σ (fun r τ => r = nI (lb k9 pr tc N N 0) ∧ σ = τ) := by
  refine Mi.of (cc := cX0_leastCostByTrying) (nL := 1) (own := RX0) hDis (by decide) rfl [(0, .ref (ad 51))] rfl (Nat.le_of_ble_eq_true rfl) rfl ?_
  intro p e s m args below meth c A Q C hret
  refine tg_aload_n C dX0_leastCostByTrying_0 1 rfl rfl 0 rfl ?_
  refine tg_iconst C (nI 0) dX0_leastCostByTrying_1 2 rfl (by decide) ?_
  refine tg_iconst C (-1) dX0_leastCostByTrying_2 3 rfl (by decide) ?_
  refine tg_callSi C (c_X0_lbt_1 l D cy ad hDis σ hC hK9 (by omega) (p9 := 0) (b := 0) (by omega) (by omega)) (cwS 3 C.2.2.2.2.1 gX0_leastCostByTrying_X0_leastByTrying rfl rfl rfl (by decide +kernel) ⟨Nat.le_of_ble_eq_true rfl, Nat.le_of_ble_eq_true rfl⟩) rfl rfl (Nat.le_of_ble_eq_true rfl) ⟨Nat.le_of_ble_eq_true rfl, Nat.le_of_ble_eq_true rfl⟩ dX0_leastCostByTrying_3 6 rfl (fun r3 τ3 h3 => ?_)
  obtain ⟨h3, h3s⟩ := h3
  subst h3s
  subst h3
  exact hret dX0_leastCostByTrying_6 ⟨by rw [hN], rfl⟩
set_option maxHeartbeats 4000000 in
set_option maxRecDepth 100000 in
theorem c_X0_leastCostByTrying_2 (l : Launch) (D : va_G) (cy : Nat → ClassId) (ad : Nat → Nat) (hDis : Dis ad) (σ : sS) {N tc pr : Nat} (hC : Ct σ N tc pr) {k9 : Nat → Nat → Nat} (hK9 : Cs σ N tc k9) (hN : N = 2) : Mi l yX0_leastCostByTrying wsX0_leastCostByTrying 7 175 D cy ad [.ref (ad 51)] σ (fun r τ => r = nI (lb k9 pr tc N N 0) ∧ σ = τ) := by
  refine Mi.of (cc := cX0_leastCostByTrying) (nL := 1) (own := RX0) hDis (by decide) rfl [(0, .ref (ad 51))] rfl (Nat.le_of_ble_eq_true rfl) rfl ?_
  intro p e s m args below meth c A Q C hret
  refine tg_aload_n C dX0_leastCostByTrying_0 1 rfl rfl 0 rfl ?_
  refine tg_iconst C (nI 0) dX0_leastCostByTrying_1 2 rfl (by decide) ?_
  refine tg_iconst C (-1) dX0_leastCostByTrying_2 3 rfl (by decide) ?_
  refine tg_callSi C (c_X0_lbt_2 l D cy ad hDis σ hC hK9 (by omega) (p9 := 0) (b := 0) (by omega) (by omega)) (cwS 3 C.2.2.2.2.1 gX0_leastCostByTrying_X0_leastByTrying rfl rfl rfl (by decide +kernel) ⟨Nat.le_of_ble_eq_true rfl, Nat.le_of_ble_eq_true rfl⟩) rfl rfl (Nat.le_of_ble_eq_true rfl) ⟨Nat.le_of_ble_eq_true rfl, Nat.le_of_ble_eq_true rfl⟩ dX0_leastCostByTrying_3 6 rfl (fun r3 τ3 h3 => ?_)
  obtain ⟨h3, h3s⟩ := h3
  subst h3s
  subst h3
  exact hret dX0_leastCostByTrying_6 ⟨by rw [hN], rfl⟩
set_option maxHeartbeats 4000000 in
set_option maxRecDepth 100000 in
theorem c_X0_leastCostByTrying_3 (l : Launch) (D : va_G) (cy : Nat → ClassId) (ad : Nat → Nat) (hDis : Dis ad) (σ : sS) {N tc pr : Nat} (hC : Ct σ N tc pr) {k9 : Nat → Nat → Nat} (hK9 : Cs σ N tc k9) (hN : N = 3) : Mi l yX0_leastCostByTrying wsX0_leastCostByTrying 7 175 D cy ad [.ref (ad 51)] σ (fun r τ => r = nI (lb k9 pr tc N N 0) ∧ σ = τ) := by
  refine Mi.of (cc := cX0_leastCostByTrying) (nL := 1) (own := RX0) hDis (by decide) rfl [(0, .ref (ad 51))] rfl (Nat.le_of_ble_eq_true rfl) rfl ?_
  intro p e s m args below meth c A Q C hret
  refine tg_aload_n C dX0_leastCostByTrying_0 1 rfl rfl 0 rfl ?_
  refine tg_iconst C (nI 0) dX0_leastCostByTrying_1 2 rfl (by decide) ?_
  refine tg_iconst C (-1) dX0_leastCostByTrying_2 3 rfl (by decide) ?_
  refine tg_callSi C (c_X0_lbt_3 l D cy ad hDis σ hC hK9 (by omega) (p9 := 0) (b := 0) (by omega) (by omega)) (cwS 3 C.2.2.2.2.1 gX0_leastCostByTrying_X0_leastByTrying rfl rfl rfl (by decide +kernel) ⟨Nat.le_of_ble_eq_true rfl, Nat.le_of_ble_eq_true rfl⟩) rfl rfl (Nat.le_of_ble_eq_true rfl) ⟨Nat.le_of_ble_eq_true rfl, Nat.le_of_ble_eq_true rfl⟩ dX0_leastCostByTrying_3 6 rfl (fun r3 τ3 h3 => ?_)
  obtain ⟨h3, h3s⟩ := h3
  subst h3s
  subst h3
  exact hret dX0_leastCostByTrying_6 ⟨by rw [hN], rfl⟩
set_option maxHeartbeats 4000000 in
set_option maxRecDepth 100000 in
theorem c_X0_leastCostByTrying_4 (l : Launch) (D : va_G) (cy : Nat → ClassId) (ad : Nat → Nat) (hDis : Dis ad) (σ : sS) {N tc pr : Nat} (hC : Ct σ N tc pr) {k9 : Nat → Nat → Nat} (hK9 : Cs σ N tc k9) (hN : N = 4) : Mi l yX0_leastCostByTrying wsX0_leastCostByTrying 7 175 D cy ad [.ref (ad 51)] σ (fun r τ => r = nI (lb k9 pr tc N N 0) ∧ σ = τ) := by
  refine Mi.of (cc := cX0_leastCostByTrying) (nL := 1) (own := RX0) hDis (by decide) rfl [(0, .ref (ad 51))] rfl (Nat.le_of_ble_eq_true rfl) rfl ?_
  intro p e s m args below meth c A Q C hret
  refine tg_aload_n C dX0_leastCostByTrying_0 1 rfl rfl 0 rfl ?_
  refine tg_iconst C (nI 0) dX0_leastCostByTrying_1 2 rfl (by decide) ?_
  refine tg_iconst C (-1) dX0_leastCostByTrying_2 3 rfl (by decide) ?_
  refine tg_callSi C (c_X0_lbt_4 l D cy ad hDis σ hC hK9 (by omega) (p9 := 0) (b := 0) (by omega) (by omega)) (cwS 3 C.2.2.2.2.1 gX0_leastCostByTrying_X0_leastByTrying rfl rfl rfl (by decide +kernel) ⟨Nat.le_of_ble_eq_true rfl, Nat.le_of_ble_eq_true rfl⟩) rfl rfl (Nat.le_of_ble_eq_true rfl) ⟨Nat.le_of_ble_eq_true rfl, Nat.le_of_ble_eq_true rfl⟩ dX0_leastCostByTrying_3 6 rfl (fun r3 τ3 h3 => ?_)
  obtain ⟨h3, h3s⟩ := h3
  subst h3s
  subst h3
  exact hret dX0_leastCostByTrying_6 ⟨by rw [hN], rfl⟩
set_option maxHeartbeats 4000000 in
set_option maxRecDepth 100000 in
theorem c_X0_leastCostByTrying_5 (l : Launch) (D : va_G) (cy : Nat → ClassId) (ad : Nat → Nat) (hDis : Dis ad) (σ : sS) {N tc pr : Nat} (hC : Ct σ N tc pr) {k9 : Nat → Nat → Nat} (hK9 : Cs σ N tc k9) (hN : N = 5) : Mi l yX0_leastCostByTrying wsX0_leastCostByTrying 7 175 D cy ad [.ref (ad 51)] σ (fun r τ => r = nI (lb k9 pr tc N N 0) ∧ σ = τ) := by
  refine Mi.of (cc := cX0_leastCostByTrying) (nL := 1) (own := RX0) hDis (by decide) rfl [(0, .ref (ad 51))] rfl (Nat.le_of_ble_eq_true rfl) rfl ?_
  intro p e s m args below meth c A Q C hret
  refine tg_aload_n C dX0_leastCostByTrying_0 1 rfl rfl 0 rfl ?_
  refine tg_iconst C (nI 0) dX0_leastCostByTrying_1 2 rfl (by decide) ?_
  refine tg_iconst C (-1) dX0_leastCostByTrying_2 3 rfl (by decide) ?_
  refine tg_callSi C (c_X0_lbt_5 l D cy ad hDis σ hC hK9 (by omega) (p9 := 0) (b := 0) (by omega) (by omega)) (cwS 3 C.2.2.2.2.1 gX0_leastCostByTrying_X0_leastByTrying rfl rfl rfl (by decide +kernel) ⟨Nat.le_of_ble_eq_true rfl, Nat.le_of_ble_eq_true rfl⟩) rfl rfl (Nat.le_of_ble_eq_true rfl) ⟨Nat.le_of_ble_eq_true rfl, Nat.le_of_ble_eq_true rfl⟩ dX0_leastCostByTrying_3 6 rfl (fun r3 τ3 h3 => ?_)
  obtain ⟨h3, h3s⟩ := h3
  subst h3s
  subst h3
  exact hret dX0_leastCostByTrying_6 ⟨by rw [hN], rfl⟩
set_option maxHeartbeats 4000000 in
set_option maxRecDepth 100000 in
theorem c_X0_leastCostByTrying_6 (l : Launch) (D : va_G) (cy : Nat → ClassId) (ad : Nat → Nat) (hDis : Dis ad) (σ : sS) {N tc pr : Nat} (hC : Ct σ N tc pr) {k9 : Nat → Nat → Nat} (hK9 : Cs σ N tc k9) (hN : N = 6) : Mi l yX0_leastCostByTrying wsX0_leastCostByTrying 7 175 D cy ad [.ref (ad 51)] σ (fun r τ => r = nI (lb k9 pr tc N N 0) ∧ σ = τ) := by
  refine Mi.of (cc := cX0_leastCostByTrying) (nL := 1) (own := RX0) hDis (by decide) rfl [(0, .ref (ad 51))] rfl (Nat.le_of_ble_eq_true rfl) rfl ?_
  intro p e s m args below meth c A Q C hret
  refine tg_aload_n C dX0_leastCostByTrying_0 1 rfl rfl 0 rfl ?_
  refine tg_iconst C (nI 0) dX0_leastCostByTrying_1 2 rfl (by decide) ?_
  refine tg_iconst C (-1) dX0_leastCostByTrying_2 3 rfl (by decide) ?_
  refine tg_callSi C (c_X0_lbt_6 l D cy ad hDis σ hC hK9 (by omega) (p9 := 0) (b := 0) (by omega) (by omega)) (cwS 3 C.2.2.2.2.1 gX0_leastCostByTrying_X0_leastByTrying rfl rfl rfl (by decide +kernel) ⟨Nat.le_of_ble_eq_true rfl, Nat.le_of_ble_eq_true rfl⟩) rfl rfl (Nat.le_of_ble_eq_true rfl) ⟨Nat.le_of_ble_eq_true rfl, Nat.le_of_ble_eq_true rfl⟩ dX0_leastCostByTrying_3 6 rfl (fun r3 τ3 h3 => ?_)
  obtain ⟨h3, h3s⟩ := h3
  subst h3s
  subst h3
  exact hret dX0_leastCostByTrying_6 ⟨by rw [hN], rfl⟩
theorem c_X0_leastCostByTrying (l : Launch) (D : va_G) (cy : Nat → ClassId) (ad : Nat → Nat) (hDis : Dis ad) (σ : sS) {N tc pr : Nat} (hC : Ct σ N tc pr) {k9 : Nat → Nat → Nat} (hK9 : Cs σ N tc k9) (hN6 : N ≤ 6) : Mi l yX0_leastCostByTrying wsX0_leastCostByTrying 7 175 D cy ad [.ref (ad 51)] σ (fun r τ => r = nI (lb k9 pr tc N N 0) ∧ σ = τ) := by
  rcases (show N = 0 ∨ N = 1 ∨ N = 2 ∨ N = 3 ∨ N = 4 ∨ N = 5 ∨ N = 6 by omega) with h | h | h | h | h | h | h
  · exact c_X0_leastCostByTrying_0 l D cy ad hDis σ hC hK9 h
  · exact c_X0_leastCostByTrying_1 l D cy ad hDis σ hC hK9 h
  · exact c_X0_leastCostByTrying_2 l D cy ad hDis σ hC hK9 h
  · exact c_X0_leastCostByTrying_3 l D cy ad hDis σ hC hK9 h
  · exact c_X0_leastCostByTrying_4 l D cy ad hDis σ hC hK9 h
  · exact c_X0_leastCostByTrying_5 l D cy ad hDis σ hC hK9 h
  · exact c_X0_leastCostByTrying_6 l D cy ad hDis σ hC hK9 h
