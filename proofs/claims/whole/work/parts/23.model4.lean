/-! ===== the reference: cuts ===== -/
/-! ===== the reference: cuts, teaching, withdrawing ===== -/
theorem stepB {g : Nat → Nat} {t v own v' : Nat} (h : (t = 0 ∧ v = 0) ∨ (0 < t ∧ v = g (amin g t))) (ho : own = g t) (hv : (v' = own ∧ (t = 0 ∨ own < v)) ∨ (v' = v ∧ ¬ t = 0 ∧ ¬ own < v)) : v' = g (amin g (t + 1)) := by
  rw [amin]
  rcases h with ⟨rfl, rfl⟩ | ⟨h, rfl⟩
  · rw [show amin g 0 = 0 from rfl, if_neg (Nat.lt_irrefl _)]
    omega
  · split
    · omega
    · omega
theorem stepC {g : Nat → Nat} {t v e own v' e' : Nat} (h : (t = 0 ∧ e = 0 ∧ v = 0) ∨ (0 < t ∧ e = amin g t + 1 ∧ v = g (amin g t))) (ho : own = g t) (hv : (v' = own ∧ e' = t + 1 ∧ (e = 0 ∨ own < v)) ∨ (v' = v ∧ e' = e ∧ ¬ e = 0 ∧ ¬ own < v)) : e' = amin g (t + 1) + 1 ∧ v' = g (amin g (t + 1)) := by
  rw [amin]
  rcases h with ⟨rfl, rfl, rfl⟩ | ⟨h, rfl, rfl⟩
  · rw [show amin g 0 = 0 from rfl, if_neg (Nat.lt_irrefl _)]
    omega
  · split
    · omega
    · omega
def Rr (σ : sS) (N tc q : Nat) (k : Nat → Nat → Nat) (pr : Nat) : Prop := ∀ p t, q ≤ p → p < N → t < tc → σ 95 (5 * p + t) = nI (rb k pr tc N (N - p) t)
theorem MM.fr2 {σ τ : sS} {n : Nat} {w : Nat → Nat} {tc mg pr tx nx : Nat} {nm wh wd : Nat → Nat} {kp : Nat → Nat → Nat} (h : MM σ n w tc mg pr tx nx nm wh wd kp) (e : ∀ k, k ≠ 0 → τ 89 k = σ 89 k) (e0 : τ 90 = σ 90) (e1 : ∀ k, k < tx → τ 91 k = σ 91 k) (e2 : ∀ k, k < tx → τ 92 k = σ 92 k) (e3 : ∀ k, k < tx → τ 93 k = σ 93 k) (e4 : ∀ i, i < 17 * tx → τ 94 i = σ 94 i) : MM τ n w tc mg pr tx nx nm wh wd kp := by
  obtain ⟨h1, h2, h3, h4, h5, h6, h7⟩ := h
  refine ⟨?_, ?_, ?_, ?_, h5, h6, fun k hk => ?_⟩
  · rw [e 2 (by decide), e0]; exact h1
  · rw [e 3 (by decide), e 4 (by decide), e 5 (by decide)]; exact h2
  · rw [e 6 (by decide)]; exact h3
  · rw [e 7 (by decide)]; exact h4
  · obtain ⟨a1, a2, a3, a4⟩ := h7 k hk
    exact ⟨by rw [e1 k hk]; exact a1, by rw [e2 k hk]; exact a2, by rw [e3 k hk]; exact a3, fun j hj => by rw [e4 _ (by have := a3.2; omega)]; exact a4 j hj⟩
def KeptM (σ τ : sS) (tx nx t ln f n : Nat) (w : Nat → Nat) : Prop :=
  τ 91 = upd (σ 91) tx (nI nx) ∧ τ 92 = upd (σ 92) tx (nI t) ∧ τ 93 = upd (σ 93) tx (nI ln) ∧ (∀ p, p < ln → τ 94 (17 * tx + p) = nI (rn n w (f + p))) ∧ (∀ i, i < 17 * tx → τ 94 i = σ 94 i) ∧ τ 89 = upd (upd (σ 89) 6 (nI (tx + 1))) 7 (nI (nx + 1)) ∧ ∀ j, j ≠ 89 → j ≠ 91 → j ≠ 92 → j ≠ 93 → j ≠ 94 → τ j = σ j
/-- text s is taken out, those behind it move up -/
def Shft (σ τ : sS) (s tx : Nat) : Prop :=
  τ 89 = upd (upd (σ 89) 0 (nI 0)) 6 (nI (tx - 1)) ∧ (∀ k, k < tx - 1 → τ 91 k = (if s ≤ k then σ 91 (k + 1) else σ 91 k) ∧ τ 92 k = (if s ≤ k then σ 92 (k + 1) else σ 92 k) ∧ τ 93 k = (if s ≤ k then σ 93 (k + 1) else σ 93 k) ∧ ∀ j, j < 17 → τ 94 (17 * k + j) = if s ≤ k then σ 94 (17 * (k + 1) + j) else σ 94 (17 * k + j)) ∧
  ∀ j, j ≠ 89 → j ≠ 91 → j ≠ 92 → j ≠ 93 → j ≠ 94 → τ j = σ j
set_option maxHeartbeats 4000000 in
set_option maxRecDepth 100000 in
theorem c_X5_behind (l : Launch) (D : va_G) (cy : Nat → ClassId) (ad : Nat → Nat) (hDis : Dis ad) (σ : sS) {n : Nat} {w : Nat → Nat} {tc mg pr tx nx : Nat} {nm wh wd : Nat → Nat} {kp : Nat → Nat → Nat} (hM : MM σ n w tc mg pr tx nx nm wh wd kp) (htc : 0 < tc) {p9 t1 : Nat} {f9 : Nat → Nat} (hp : p9 < 16) (ht1 : t1 < 5) (hv : ∀ u, u < tc → σ 95 (5 * (p9 + 1) + u) = nI (f9 u) ∧ f9 u ≤ 100000) : Mi l yX5_behind wsX5_behind 0 0 D cy ad [.ref (ad 89), .int (nI p9), .int (nI t1)] σ (fun r τ => r = nI ((fun u => f9 u + chg pr (t1 + 1) u) (amin (fun u => f9 u + chg pr (t1 + 1) u) tc)) ∧ σ = τ) := by
  have w0 : Cond.fieldLink RX5 38 "TonguetellModel" "tongueMany" "I" ∈ wsX5_behind := by decide +kernel
  have w1 : ∀ w ∈ wsX50, w ∈ wsX5_behind := by decide +kernel
  have w2 : Cond.fieldLink RX5 32 "TonguetellModel" "rest" "[I" ∈ wsX5_behind := by decide +kernel
  have w3 : Cond.fieldLink RX5 17 "TonguetellModel" "price" "I" ∈ wsX5_behind := by decide +kernel
  have hn16 := hM.1.2.1
  have htc5 := hM.2.1.2.2.2.1
  have htx := hM.2.2.2.2.1
  have hrc := rc_le hn16
  have hrn := hM.rn_lt
  have hwd := hM.wd_le
  have hmg := hM.2.1.2.2.2.2.1
  have hpr := hM.2.1.2.2.2.2.2
  have hnx := hM.2.2.2.2.2.1
  refine Mi.of (cc := cX5_behind) (nL := 6) (own := RX5) hDis (by decide) rfl [(0, .ref (ad 89)), (1, .int (nI p9)), (2, .int (nI t1))] rfl (Nat.le_of_ble_eq_true rfl) rfl ?_
  intro p e s m args below meth c A Q C hret
  refine tg_iconst C (nI 0) dX5_behind_0 1 rfl (by decide) ?_
  refine tg_istore_n C dX5_behind_1 2 rfl rfl [(3, .int (nI 0)), (0, .ref (ad 89)), (1, .int (nI p9)), (2, .int (nI t1))] (by decide) rfl ?_
  refine tg_iconst C (nI 0) dX5_behind_2 3 rfl (by decide) ?_
  refine tg_istore C dX5_behind_3 5 rfl [(4, .int (nI 0)), (3, .int (nI 0)), (0, .ref (ad 89)), (1, .int (nI p9)), (2, .int (nI t1))] (by decide) rfl ?_
  have L5 : ∀ (n5 : Nat) (t v9 : Nat), (t ≤ tc ∧ ((t = 0 ∧ v9 = 0) ∨ (0 < t ∧ v9 = (fun u => f9 u + chg pr (t1 + 1) u) (amin (fun u => f9 u + chg pr (t1 + 1) u) t))) ∧ v9 ≤ 100100) → tc - t < n5 → TT p l e (Rm 0 0) s m args below meth c D cy ad A 6 0 0 Q σ 5 [(0, .ref (ad 89)), (1, .int (nI p9)), (2, .int (nI t1)), (3, .int (nI v9)), (4, .int (nI t))] [] := by
    intro n5
    induction n5 with
    | zero => intro t v9 _ hn5; exact absurd hn5 (Nat.not_lt_zero _)
    | succ n5 ih5 =>
      intro t v9 ⟨ht, hvv, hb⟩ hn5
      refine tg_iload C dX5_behind_5 7 rfl 4 rfl ?_
      refine tg_aload_n C dX5_behind_7 8 rfl rfl 0 rfl ?_
      refine tg_get (T := TX5) (N := 13) (Cn := RX5) C 89 (by decide) (e_89 ad cy _) rfl w1 3 (by decide) w0 rfl rfl dX5_behind_8 11 rfl ?_
      refine tg_top (y := nI tc) (hM.2.1.1) ?_
      refine tg_icmp_ge C 68 dX5_behind_11 (by decide) 14 rfl (fun c11 => ?_) (fun c11 => ?_)
      · -- to 68
        replace c11 : tc ≤ t := (nI_leI (by omega) (by omega)).mp c11
        refine tg_iload_n C dX5_behind_68 69 rfl rfl 3 rfl ?_
        exact hret dX5_behind_69 ⟨by rcases hvv with hv9 | hv9; omega; rw [hv9.2, show t = tc by omega], rfl⟩
      · -- on
        replace c11 : ¬ tc ≤ t := fun q => c11 ((nI_leI (by omega) (by omega)).mpr q)
        refine tg_aload_n C dX5_behind_14 15 rfl rfl 0 rfl ?_
        refine tg_get (T := TX5) (N := 13) (Cn := RX5) C 89 (by decide) (e_89 ad cy _) rfl w1 12 (by decide) w2 rfl rfl dX5_behind_15 18 rfl ?_
        refine tg_iconst C (nI 5) dX5_behind_18 19 rfl (by decide) ?_
        refine tg_iload_n C dX5_behind_19 20 rfl rfl 1 rfl ?_
        refine tg_iconst C (nI 1) dX5_behind_20 21 rfl (by decide) ?_
        refine tg_iadd C (nI (p9 + 1)) dX5_behind_21 22 rfl (nI_add p9 1) ?_
        refine tg_imul C (nI (5 * (p9 + 1))) dX5_behind_22 23 rfl (pk_mul 5 (p9 + 1)) ?_
        refine tg_iload C dX5_behind_23 25 rfl 4 rfl ?_
        refine tg_iadd C (nI ((5 * (p9 + 1)) + t)) dX5_behind_25 26 rfl (nI_add (5 * (p9 + 1)) t) ?_
        have hf9 := (hv t (by omega)).2
        refine tg_iald C 95 (by decide) ((e_95 ad cy) _) ((5 * (p9 + 1)) + t) rfl (by omega) (by decide) dX5_behind_26 27 rfl ?_
        refine tg_top (y := nI (f9 t)) ((hv t (by omega)).1) ?_
        refine tg_iload C dX5_behind_27 29 rfl 4 rfl ?_
        refine tg_iload_n C dX5_behind_29 30 rfl rfl 2 rfl ?_
        refine tg_icmp_ne C 37 dX5_behind_30 (by decide) 33 rfl (fun c30 => ?_) (fun c30 => ?_)
        · -- to 37
          replace c30 : ¬ t = t1 := fun q => c30 ((nI_eq (by omega) (by omega)).mpr q)
          refine tg_aload_n C dX5_behind_37 38 rfl rfl 0 rfl ?_
          refine tg_get (T := TX5) (N := 13) (Cn := RX5) C 89 (by decide) (e_89 ad cy _) rfl w1 5 (by decide) w3 rfl rfl dX5_behind_38 41 rfl ?_
          refine tg_top (y := nI pr) (hM.2.1.2.2.1) ?_
          refine tg_iadd C (nI ((f9 t) + pr)) dX5_behind_41 42 rfl (nI_add (f9 t) pr) ?_
          refine tg_istore C dX5_behind_42 44 rfl [(5, .int (nI ((f9 t) + pr))), (0, .ref (ad 89)), (1, .int (nI p9)), (2, .int (nI t1)), (3, .int (nI v9)), (4, .int (nI t))] (by decide) rfl ?_
          refine tg_iload C dX5_behind_44 46 rfl 5 rfl ?_
          refine tg_if_eq C 55 dX5_behind_46 (by decide) 49 rfl (fun c46 => ?_) (fun c46 => ?_)
          · -- to 55
            replace c46 : t = 0 := (z_eq (by omega)).mp c46
            refine tg_iload C dX5_behind_55 57 rfl 0 rfl ?_
            refine tg_goto C 61 dX5_behind_57 (by decide) ?_
            refine tg_istore_n C dX5_behind_61 62 rfl rfl [(3, .int (nI ((f9 t) + pr))), (5, .int (nI ((f9 t) + pr))), (0, .ref (ad 89)), (1, .int (nI p9)), (2, .int (nI t1)), (4, .int (nI t))] (by decide) rfl ?_
            refine tg_iinc C (nI (t + 1)) dX5_behind_62 65 rfl 5 rfl (nI_add t 1) [(4, .int (nI (t + 1))), (3, .int (nI ((f9 t) + pr))), (5, .int (nI ((f9 t) + pr))), (0, .ref (ad 89)), (1, .int (nI p9)), (2, .int (nI t1))] (by decide) rfl ?_
            refine tg_goto C 5 dX5_behind_65 (by decide) ?_
            refine tg_sub [3, 4, 5, 1, 0] rfl ?_
            have ho : (f9 t) + pr = (fun u => f9 u + chg pr (t1 + 1) u) t := by show _ = f9 t + chg pr (t1 + 1) t; unfold chg; first | (rw [if_pos (by omega)]; done) | (rw [if_neg (by omega)]; done)
            exact ih5 (t + 1) ((f9 t) + pr) ⟨by omega, Or.inr ⟨by omega, stepB (g := (fun u => f9 u + chg pr (t1 + 1) u)) hvv ho (Or.inl ⟨rfl, by omega⟩)⟩, by omega⟩ (by omega)
          · -- on
            replace c46 : ¬ t = 0 := fun q => c46 ((z_eq (by omega)).mpr q)
            refine tg_iload C dX5_behind_49 51 rfl 0 rfl ?_
            refine tg_iload_n C dX5_behind_51 52 rfl rfl 4 rfl ?_
            refine tg_icmp_ge C 60 dX5_behind_52 (by decide) 55 rfl (fun c52 => ?_) (fun c52 => ?_)
            · -- to 60
              replace c52 : v9 ≤ ((f9 t) + pr) := (nI_leI (by omega) (by omega)).mp c52
              refine tg_iload_n C dX5_behind_60 61 rfl rfl 4 rfl ?_
              refine tg_istore_n C dX5_behind_61 62 rfl rfl [(3, .int (nI v9)), (5, .int (nI ((f9 t) + pr))), (0, .ref (ad 89)), (1, .int (nI p9)), (2, .int (nI t1)), (4, .int (nI t))] (by decide) rfl ?_
              refine tg_iinc C (nI (t + 1)) dX5_behind_62 65 rfl 5 rfl (nI_add t 1) [(4, .int (nI (t + 1))), (3, .int (nI v9)), (5, .int (nI ((f9 t) + pr))), (0, .ref (ad 89)), (1, .int (nI p9)), (2, .int (nI t1))] (by decide) rfl ?_
              refine tg_goto C 5 dX5_behind_65 (by decide) ?_
              refine tg_sub [3, 4, 5, 1, 0] rfl ?_
              have ho : (f9 t) + pr = (fun u => f9 u + chg pr (t1 + 1) u) t := by show _ = f9 t + chg pr (t1 + 1) t; unfold chg; first | (rw [if_pos (by omega)]; done) | (rw [if_neg (by omega)]; done)
              exact ih5 (t + 1) (v9) ⟨by omega, Or.inr ⟨by omega, stepB (g := (fun u => f9 u + chg pr (t1 + 1) u)) hvv ho (Or.inr ⟨rfl, by omega, by omega⟩)⟩, by omega⟩ (by omega)
            · -- on
              replace c52 : ¬ v9 ≤ ((f9 t) + pr) := fun q => c52 ((nI_leI (by omega) (by omega)).mpr q)
              refine tg_iload C dX5_behind_55 57 rfl 0 rfl ?_
              refine tg_goto C 61 dX5_behind_57 (by decide) ?_
              refine tg_istore_n C dX5_behind_61 62 rfl rfl [(3, .int (nI ((f9 t) + pr))), (5, .int (nI ((f9 t) + pr))), (0, .ref (ad 89)), (1, .int (nI p9)), (2, .int (nI t1)), (4, .int (nI t))] (by decide) rfl ?_
              refine tg_iinc C (nI (t + 1)) dX5_behind_62 65 rfl 5 rfl (nI_add t 1) [(4, .int (nI (t + 1))), (3, .int (nI ((f9 t) + pr))), (5, .int (nI ((f9 t) + pr))), (0, .ref (ad 89)), (1, .int (nI p9)), (2, .int (nI t1))] (by decide) rfl ?_
              refine tg_goto C 5 dX5_behind_65 (by decide) ?_
              refine tg_sub [3, 4, 5, 1, 0] rfl ?_
              have ho : (f9 t) + pr = (fun u => f9 u + chg pr (t1 + 1) u) t := by show _ = f9 t + chg pr (t1 + 1) t; unfold chg; first | (rw [if_pos (by omega)]; done) | (rw [if_neg (by omega)]; done)
              exact ih5 (t + 1) ((f9 t) + pr) ⟨by omega, Or.inr ⟨by omega, stepB (g := (fun u => f9 u + chg pr (t1 + 1) u)) hvv ho (Or.inl ⟨rfl, by omega⟩)⟩, by omega⟩ (by omega)
        · -- on
          replace c30 : t = t1 := (nI_eq (by omega) (by omega)).mp c30
          refine tg_iconst C (nI 0) dX5_behind_33 34 rfl (by decide) ?_
          refine tg_goto C 41 dX5_behind_34 (by decide) ?_
          refine tg_iadd C (nI ((f9 t) + 0)) dX5_behind_41 42 rfl (nI_add (f9 t) 0) ?_
          refine tg_istore C dX5_behind_42 44 rfl [(5, .int (nI ((f9 t) + 0))), (0, .ref (ad 89)), (1, .int (nI p9)), (2, .int (nI t1)), (3, .int (nI v9)), (4, .int (nI t))] (by decide) rfl ?_
          refine tg_iload C dX5_behind_44 46 rfl 5 rfl ?_
          refine tg_if_eq C 55 dX5_behind_46 (by decide) 49 rfl (fun c46 => ?_) (fun c46 => ?_)
          · -- to 55
            replace c46 : t = 0 := (z_eq (by omega)).mp c46
            refine tg_iload C dX5_behind_55 57 rfl 0 rfl ?_
            refine tg_goto C 61 dX5_behind_57 (by decide) ?_
            refine tg_istore_n C dX5_behind_61 62 rfl rfl [(3, .int (nI ((f9 t) + 0))), (5, .int (nI ((f9 t) + 0))), (0, .ref (ad 89)), (1, .int (nI p9)), (2, .int (nI t1)), (4, .int (nI t))] (by decide) rfl ?_
            refine tg_iinc C (nI (t + 1)) dX5_behind_62 65 rfl 5 rfl (nI_add t 1) [(4, .int (nI (t + 1))), (3, .int (nI ((f9 t) + 0))), (5, .int (nI ((f9 t) + 0))), (0, .ref (ad 89)), (1, .int (nI p9)), (2, .int (nI t1))] (by decide) rfl ?_
            refine tg_goto C 5 dX5_behind_65 (by decide) ?_
            refine tg_sub [3, 4, 5, 1, 0] rfl ?_
            have ho : (f9 t) + 0 = (fun u => f9 u + chg pr (t1 + 1) u) t := by show _ = f9 t + chg pr (t1 + 1) t; unfold chg; first | (rw [if_pos (by omega)]; done) | (rw [if_neg (by omega)]; done)
            exact ih5 (t + 1) ((f9 t) + 0) ⟨by omega, Or.inr ⟨by omega, stepB (g := (fun u => f9 u + chg pr (t1 + 1) u)) hvv ho (Or.inl ⟨rfl, by omega⟩)⟩, by omega⟩ (by omega)
          · -- on
            replace c46 : ¬ t = 0 := fun q => c46 ((z_eq (by omega)).mpr q)
            refine tg_iload C dX5_behind_49 51 rfl 0 rfl ?_
            refine tg_iload_n C dX5_behind_51 52 rfl rfl 4 rfl ?_
            refine tg_icmp_ge C 60 dX5_behind_52 (by decide) 55 rfl (fun c52 => ?_) (fun c52 => ?_)
            · -- to 60
              replace c52 : v9 ≤ ((f9 t) + 0) := (nI_leI (by omega) (by omega)).mp c52
              refine tg_iload_n C dX5_behind_60 61 rfl rfl 4 rfl ?_
              refine tg_istore_n C dX5_behind_61 62 rfl rfl [(3, .int (nI v9)), (5, .int (nI ((f9 t) + 0))), (0, .ref (ad 89)), (1, .int (nI p9)), (2, .int (nI t1)), (4, .int (nI t))] (by decide) rfl ?_
              refine tg_iinc C (nI (t + 1)) dX5_behind_62 65 rfl 5 rfl (nI_add t 1) [(4, .int (nI (t + 1))), (3, .int (nI v9)), (5, .int (nI ((f9 t) + 0))), (0, .ref (ad 89)), (1, .int (nI p9)), (2, .int (nI t1))] (by decide) rfl ?_
              refine tg_goto C 5 dX5_behind_65 (by decide) ?_
              refine tg_sub [3, 4, 5, 1, 0] rfl ?_
              have ho : (f9 t) + 0 = (fun u => f9 u + chg pr (t1 + 1) u) t := by show _ = f9 t + chg pr (t1 + 1) t; unfold chg; first | (rw [if_pos (by omega)]; done) | (rw [if_neg (by omega)]; done)
              exact ih5 (t + 1) (v9) ⟨by omega, Or.inr ⟨by omega, stepB (g := (fun u => f9 u + chg pr (t1 + 1) u)) hvv ho (Or.inr ⟨rfl, by omega, by omega⟩)⟩, by omega⟩ (by omega)
            · -- on
              replace c52 : ¬ v9 ≤ ((f9 t) + 0) := fun q => c52 ((nI_leI (by omega) (by omega)).mpr q)
              refine tg_iload C dX5_behind_55 57 rfl 0 rfl ?_
              refine tg_goto C 61 dX5_behind_57 (by decide) ?_
              refine tg_istore_n C dX5_behind_61 62 rfl rfl [(3, .int (nI ((f9 t) + 0))), (5, .int (nI ((f9 t) + 0))), (0, .ref (ad 89)), (1, .int (nI p9)), (2, .int (nI t1)), (4, .int (nI t))] (by decide) rfl ?_
              refine tg_iinc C (nI (t + 1)) dX5_behind_62 65 rfl 5 rfl (nI_add t 1) [(4, .int (nI (t + 1))), (3, .int (nI ((f9 t) + 0))), (5, .int (nI ((f9 t) + 0))), (0, .ref (ad 89)), (1, .int (nI p9)), (2, .int (nI t1))] (by decide) rfl ?_
              refine tg_goto C 5 dX5_behind_65 (by decide) ?_
              refine tg_sub [3, 4, 5, 1, 0] rfl ?_
              have ho : (f9 t) + 0 = (fun u => f9 u + chg pr (t1 + 1) u) t := by show _ = f9 t + chg pr (t1 + 1) t; unfold chg; first | (rw [if_pos (by omega)]; done) | (rw [if_neg (by omega)]; done)
              exact ih5 (t + 1) ((f9 t) + 0) ⟨by omega, Or.inr ⟨by omega, stepB (g := (fun u => f9 u + chg pr (t1 + 1) u)) hvv ho (Or.inl ⟨rfl, by omega⟩)⟩, by omega⟩ (by omega)
  refine tg_sub [2, 3, 4, 1, 0] rfl ?_
  exact L5 _ 0 0 ⟨by omega, Or.inl ⟨rfl, rfl⟩, by omega⟩ (Nat.lt_succ_self _)
set_option maxHeartbeats 4000000 in
set_option maxRecDepth 100000 in
theorem c_X5_chooses (l : Launch) (D : va_G) (cy : Nat → ClassId) (ad : Nat → Nat) (hDis : Dis ad) (σ : sS) {n : Nat} {w : Nat → Nat} {tc mg pr tx nx : Nat} {nm wh wd : Nat → Nat} {kp : Nat → Nat → Nat} (hM : MM σ n w tc mg pr tx nx nm wh wd kp) (htc : 0 < tc) {p9 b : Nat} {f9 : Nat → Nat} (hp : p9 < 17) (hb : b ≤ 5) (hv : ∀ u, u < tc → σ 95 (5 * p9 + u) = nI (f9 u) ∧ f9 u ≤ 100000) : Mi l yX5_chooses wsX5_chooses 0 0 D cy ad [.ref (ad 89), .int (nI p9), .int (bv b)] σ (fun r τ => r = nI (amin (fun u => f9 u + chg pr b u) tc) ∧ σ = τ) := by
  have w0 : Cond.fieldLink RX5 38 "TonguetellModel" "tongueMany" "I" ∈ wsX5_chooses := by decide +kernel
  have w1 : ∀ w ∈ wsX50, w ∈ wsX5_chooses := by decide +kernel
  have w2 : Cond.fieldLink RX5 32 "TonguetellModel" "rest" "[I" ∈ wsX5_chooses := by decide +kernel
  have w3 : Cond.fieldLink RX5 17 "TonguetellModel" "price" "I" ∈ wsX5_chooses := by decide +kernel
  have hn16 := hM.1.2.1
  have htc5 := hM.2.1.2.2.2.1
  have htx := hM.2.2.2.2.1
  have hrc := rc_le hn16
  have hrn := hM.rn_lt
  have hwd := hM.wd_le
  have hmg := hM.2.1.2.2.2.2.1
  have hpr := hM.2.1.2.2.2.2.2
  have hnx := hM.2.2.2.2.2.1
  refine Mi.of (cc := cX5_chooses) (nL := 8) (own := RX5) hDis (by decide) rfl [(0, .ref (ad 89)), (1, .int (nI p9)), (2, .int (bv b))] rfl (Nat.le_of_ble_eq_true rfl) rfl ?_
  intro p e s m args below meth c A Q C hret
  refine tg_iconst C (-1) dX5_chooses_0 1 rfl (by decide) ?_
  refine tg_istore_n C dX5_chooses_1 2 rfl rfl [(3, .int ((-1))), (0, .ref (ad 89)), (1, .int (nI p9)), (2, .int (bv b))] (by decide) rfl ?_
  refine tg_iconst C (nI 0) dX5_chooses_2 3 rfl (by decide) ?_
  refine tg_istore C dX5_chooses_3 5 rfl [(4, .int (nI 0)), (3, .int ((-1))), (0, .ref (ad 89)), (1, .int (nI p9)), (2, .int (bv b))] (by decide) rfl ?_
  refine tg_iconst C (nI 0) dX5_chooses_5 6 rfl (by decide) ?_
  refine tg_istore C dX5_chooses_6 8 rfl [(5, .int (nI 0)), (4, .int (nI 0)), (3, .int ((-1))), (0, .ref (ad 89)), (1, .int (nI p9)), (2, .int (bv b))] (by decide) rfl ?_
  have L8 : ∀ (n8 : Nat) (t e9 v9 : Nat), (t ≤ tc ∧ e9 ≤ 5 ∧ ((t = 0 ∧ e9 = 0 ∧ v9 = 0) ∨ (0 < t ∧ e9 = amin (fun u => f9 u + chg pr b u) t + 1 ∧ v9 = (fun u => f9 u + chg pr b u) (amin (fun u => f9 u + chg pr b u) t))) ∧ v9 ≤ 100100) → tc - t < n8 → TT p l e (Rm 0 0) s m args below meth c D cy ad A 8 0 0 Q σ 8 [(0, .ref (ad 89)), (1, .int (nI p9)), (2, .int (bv b)), (3, .int (bv e9)), (4, .int (nI v9)), (5, .int (nI t))] [] := by
    intro n8
    induction n8 with
    | zero => intro t e9 v9 _ hn8; exact absurd hn8 (Nat.not_lt_zero _)
    | succ n8 ih8 =>
      intro t e9 v9 ⟨ht, he5, hvv, hbb⟩ hn8
      refine tg_iload C dX5_chooses_8 10 rfl 5 rfl ?_
      refine tg_aload_n C dX5_chooses_10 11 rfl rfl 0 rfl ?_
      refine tg_get (T := TX5) (N := 13) (Cn := RX5) C 89 (by decide) (e_89 ad cy _) rfl w1 3 (by decide) w0 rfl rfl dX5_chooses_11 14 rfl ?_
      refine tg_top (y := nI tc) (hM.2.1.1) ?_
      refine tg_icmp_ge C 101 dX5_chooses_14 (by decide) 17 rfl (fun c14 => ?_) (fun c14 => ?_)
      · -- to 101
        replace c14 : tc ≤ t := (nI_leI (by omega) (by omega)).mp c14
        refine tg_iload_n C dX5_chooses_101 102 rfl rfl 3 rfl ?_
        exact hret dX5_chooses_102 ⟨by rcases hvv with hv9 | hv9; omega; rw [hv9.2.1, show t = tc by omega]; rfl, rfl⟩
      · -- on
        replace c14 : ¬ tc ≤ t := fun q => c14 ((nI_leI (by omega) (by omega)).mpr q)
        refine tg_aload_n C dX5_chooses_17 18 rfl rfl 0 rfl ?_
        refine tg_get (T := TX5) (N := 13) (Cn := RX5) C 89 (by decide) (e_89 ad cy _) rfl w1 12 (by decide) w2 rfl rfl dX5_chooses_18 21 rfl ?_
        refine tg_iconst C (nI 5) dX5_chooses_21 22 rfl (by decide) ?_
        refine tg_iload_n C dX5_chooses_22 23 rfl rfl 1 rfl ?_
        refine tg_imul C (nI (5 * p9)) dX5_chooses_23 24 rfl (pk_mul 5 p9) ?_
        refine tg_iload C dX5_chooses_24 26 rfl 5 rfl ?_
        refine tg_iadd C (nI ((5 * p9) + t)) dX5_chooses_26 27 rfl (nI_add (5 * p9) t) ?_
        have hf9 := (hv t (by omega)).2
        refine tg_iald C 95 (by decide) ((e_95 ad cy) _) ((5 * p9) + t) rfl (by omega) (by decide) dX5_chooses_27 28 rfl ?_
        refine tg_top (y := nI (f9 t)) ((hv t (by omega)).1) ?_
        refine tg_iload_n C dX5_chooses_28 29 rfl rfl 2 rfl ?_
        refine tg_iconst C (-1) dX5_chooses_29 30 rfl (by decide) ?_
        refine tg_icmp_eq C 39 dX5_chooses_30 (by decide) 33 rfl (fun c30 => ?_) (fun c30 => ?_)
        · -- to 39
          replace c30 := (bv_m1 (by omega)).mp c30
          refine tg_iconst C (nI 0) dX5_chooses_39 40 rfl (by decide) ?_
          refine tg_goto C 47 dX5_chooses_40 (by decide) ?_
          refine tg_iadd C (nI ((f9 t) + 0)) dX5_chooses_47 48 rfl (nI_add (f9 t) 0) ?_
          refine tg_istore C dX5_chooses_48 50 rfl [(6, .int (nI ((f9 t) + 0))), (0, .ref (ad 89)), (1, .int (nI p9)), (2, .int (bv b)), (3, .int (bv e9)), (4, .int (nI v9)), (5, .int (nI t))] (by decide) rfl ?_
          refine tg_iload_n C dX5_chooses_50 51 rfl rfl 4 rfl ?_
          refine tg_iconst C (-1) dX5_chooses_51 52 rfl (by decide) ?_
          refine tg_icmp_eq C 62 dX5_chooses_52 (by decide) 55 rfl (fun c52 => ?_) (fun c52 => ?_)
          · -- to 62
            replace c52 := (bv_m1 (by omega)).mp c52
            refine tg_iconst C (nI 1) dX5_chooses_62 63 rfl (by decide) ?_
            refine tg_goto C 67 dX5_chooses_63 (by decide) ?_
            refine tg_istore C dX5_chooses_67 69 rfl [(7, .int (nI 1)), (6, .int (nI ((f9 t) + 0))), (0, .ref (ad 89)), (1, .int (nI p9)), (2, .int (bv b)), (3, .int (bv e9)), (4, .int (nI v9)), (5, .int (nI t))] (by decide) rfl ?_
            refine tg_iload C dX5_chooses_69 71 rfl 0 rfl ?_
            refine tg_if_eq C 79 dX5_chooses_71 (by decide) 74 rfl (fun c71 => absurd c71 (by decide)) (fun c71 => ?_)
            refine tg_iload C dX5_chooses_74 76 rfl 7 rfl ?_
            refine tg_goto C 80 dX5_chooses_76 (by decide) ?_
            refine tg_istore_n C dX5_chooses_80 81 rfl rfl [(3, .int (nI t)), (7, .int (nI 1)), (6, .int (nI ((f9 t) + 0))), (0, .ref (ad 89)), (1, .int (nI p9)), (2, .int (bv b)), (4, .int (nI v9)), (5, .int (nI t))] (by decide) rfl ?_
            refine tg_iload C dX5_chooses_81 83 rfl 1 rfl ?_
            refine tg_if_eq C 91 dX5_chooses_83 (by decide) 86 rfl (fun c83 => absurd c83 (by decide)) (fun c83 => ?_)
            refine tg_iload C dX5_chooses_86 88 rfl 2 rfl ?_
            refine tg_goto C 93 dX5_chooses_88 (by decide) ?_
            refine tg_istore C dX5_chooses_93 95 rfl [(4, .int (nI ((f9 t) + 0))), (3, .int (nI t)), (7, .int (nI 1)), (6, .int (nI ((f9 t) + 0))), (0, .ref (ad 89)), (1, .int (nI p9)), (2, .int (bv b)), (5, .int (nI t))] (by decide) rfl ?_
            refine tg_iinc C (nI (t + 1)) dX5_chooses_95 98 rfl 7 rfl (nI_add t 1) [(5, .int (nI (t + 1))), (4, .int (nI ((f9 t) + 0))), (3, .int (nI t)), (7, .int (nI 1)), (6, .int (nI ((f9 t) + 0))), (0, .ref (ad 89)), (1, .int (nI p9)), (2, .int (bv b))] (by decide) rfl ?_
            refine tg_goto C 8 dX5_chooses_98 (by decide) ?_
            refine tg_sub [5, 6, 7, 2, 1, 0] rfl ?_
            have ho : (f9 t) + 0 = (fun u => f9 u + chg pr b u) t := by show _ = f9 t + chg pr b t; unfold chg; first | (rw [if_pos (by omega)]; done) | (rw [if_neg (by omega)]; done)
            have hst := stepC (g := (fun u => f9 u + chg pr b u)) hvv ho (v' := (f9 t) + 0) (e' := t + 1) (Or.inl ⟨rfl, rfl, by omega⟩)
            exact ih8 (t + 1) (t + 1) ((f9 t) + 0) ⟨by omega, by omega, Or.inr ⟨by omega, hst⟩, by omega⟩ (by omega)
          · -- on
            replace c52 : ¬ e9 = 0 := fun q => c52 ((bv_m1 (by omega)).mpr q)
            refine tg_iload C dX5_chooses_55 57 rfl 0 rfl ?_
            refine tg_iload C dX5_chooses_57 59 rfl 5 rfl ?_
            refine tg_icmp_ge C 66 dX5_chooses_59 (by decide) 62 rfl (fun c59 => ?_) (fun c59 => ?_)
            · -- to 66
              replace c59 : v9 ≤ ((f9 t) + 0) := (nI_leI (by omega) (by omega)).mp c59
              refine tg_iconst C (nI 0) dX5_chooses_66 67 rfl (by decide) ?_
              refine tg_istore C dX5_chooses_67 69 rfl [(7, .int (nI 0)), (6, .int (nI ((f9 t) + 0))), (0, .ref (ad 89)), (1, .int (nI p9)), (2, .int (bv b)), (3, .int (bv e9)), (4, .int (nI v9)), (5, .int (nI t))] (by decide) rfl ?_
              refine tg_iload C dX5_chooses_69 71 rfl 0 rfl ?_
              refine tg_if_eq C 79 dX5_chooses_71 (by decide) 74 rfl (fun c71 => ?_) (fun c71 => absurd (by decide) c71)
              refine tg_iload_n C dX5_chooses_79 80 rfl rfl 5 rfl ?_
              refine tg_istore_n C dX5_chooses_80 81 rfl rfl [(3, .int (bv e9)), (7, .int (nI 0)), (6, .int (nI ((f9 t) + 0))), (0, .ref (ad 89)), (1, .int (nI p9)), (2, .int (bv b)), (4, .int (nI v9)), (5, .int (nI t))] (by decide) rfl ?_
              refine tg_iload C dX5_chooses_81 83 rfl 1 rfl ?_
              refine tg_if_eq C 91 dX5_chooses_83 (by decide) 86 rfl (fun c83 => ?_) (fun c83 => absurd (by decide) c83)
              refine tg_iload C dX5_chooses_91 93 rfl 6 rfl ?_
              refine tg_istore C dX5_chooses_93 95 rfl [(4, .int (nI v9)), (3, .int (bv e9)), (7, .int (nI 0)), (6, .int (nI ((f9 t) + 0))), (0, .ref (ad 89)), (1, .int (nI p9)), (2, .int (bv b)), (5, .int (nI t))] (by decide) rfl ?_
              refine tg_iinc C (nI (t + 1)) dX5_chooses_95 98 rfl 7 rfl (nI_add t 1) [(5, .int (nI (t + 1))), (4, .int (nI v9)), (3, .int (bv e9)), (7, .int (nI 0)), (6, .int (nI ((f9 t) + 0))), (0, .ref (ad 89)), (1, .int (nI p9)), (2, .int (bv b))] (by decide) rfl ?_
              refine tg_goto C 8 dX5_chooses_98 (by decide) ?_
              refine tg_sub [5, 6, 7, 2, 1, 0] rfl ?_
              have ho : (f9 t) + 0 = (fun u => f9 u + chg pr b u) t := by show _ = f9 t + chg pr b t; unfold chg; first | (rw [if_pos (by omega)]; done) | (rw [if_neg (by omega)]; done)
              have hst := stepC (g := (fun u => f9 u + chg pr b u)) hvv ho (v' := v9) (e' := e9) (Or.inr ⟨rfl, rfl, by omega, by omega⟩)
              exact ih8 (t + 1) (e9) (v9) ⟨by omega, by omega, Or.inr ⟨by omega, hst⟩, by omega⟩ (by omega)
            · -- on
              replace c59 : ¬ v9 ≤ ((f9 t) + 0) := fun q => c59 ((nI_leI (by omega) (by omega)).mpr q)
              refine tg_iconst C (nI 1) dX5_chooses_62 63 rfl (by decide) ?_
              refine tg_goto C 67 dX5_chooses_63 (by decide) ?_
              refine tg_istore C dX5_chooses_67 69 rfl [(7, .int (nI 1)), (6, .int (nI ((f9 t) + 0))), (0, .ref (ad 89)), (1, .int (nI p9)), (2, .int (bv b)), (3, .int (bv e9)), (4, .int (nI v9)), (5, .int (nI t))] (by decide) rfl ?_
              refine tg_iload C dX5_chooses_69 71 rfl 0 rfl ?_
              refine tg_if_eq C 79 dX5_chooses_71 (by decide) 74 rfl (fun c71 => absurd c71 (by decide)) (fun c71 => ?_)
              refine tg_iload C dX5_chooses_74 76 rfl 7 rfl ?_
              refine tg_goto C 80 dX5_chooses_76 (by decide) ?_
              refine tg_istore_n C dX5_chooses_80 81 rfl rfl [(3, .int (nI t)), (7, .int (nI 1)), (6, .int (nI ((f9 t) + 0))), (0, .ref (ad 89)), (1, .int (nI p9)), (2, .int (bv b)), (4, .int (nI v9)), (5, .int (nI t))] (by decide) rfl ?_
              refine tg_iload C dX5_chooses_81 83 rfl 1 rfl ?_
              refine tg_if_eq C 91 dX5_chooses_83 (by decide) 86 rfl (fun c83 => absurd c83 (by decide)) (fun c83 => ?_)
              refine tg_iload C dX5_chooses_86 88 rfl 2 rfl ?_
              refine tg_goto C 93 dX5_chooses_88 (by decide) ?_
              refine tg_istore C dX5_chooses_93 95 rfl [(4, .int (nI ((f9 t) + 0))), (3, .int (nI t)), (7, .int (nI 1)), (6, .int (nI ((f9 t) + 0))), (0, .ref (ad 89)), (1, .int (nI p9)), (2, .int (bv b)), (5, .int (nI t))] (by decide) rfl ?_
              refine tg_iinc C (nI (t + 1)) dX5_chooses_95 98 rfl 7 rfl (nI_add t 1) [(5, .int (nI (t + 1))), (4, .int (nI ((f9 t) + 0))), (3, .int (nI t)), (7, .int (nI 1)), (6, .int (nI ((f9 t) + 0))), (0, .ref (ad 89)), (1, .int (nI p9)), (2, .int (bv b))] (by decide) rfl ?_
              refine tg_goto C 8 dX5_chooses_98 (by decide) ?_
              refine tg_sub [5, 6, 7, 2, 1, 0] rfl ?_
              have ho : (f9 t) + 0 = (fun u => f9 u + chg pr b u) t := by show _ = f9 t + chg pr b t; unfold chg; first | (rw [if_pos (by omega)]; done) | (rw [if_neg (by omega)]; done)
              have hst := stepC (g := (fun u => f9 u + chg pr b u)) hvv ho (v' := (f9 t) + 0) (e' := t + 1) (Or.inl ⟨rfl, rfl, by omega⟩)
              exact ih8 (t + 1) (t + 1) ((f9 t) + 0) ⟨by omega, by omega, Or.inr ⟨by omega, hst⟩, by omega⟩ (by omega)
        · -- on
          replace c30 : ¬ b = 0 := fun q => c30 ((bv_m1 (by omega)).mpr q)
          refine tg_iload_n C dX5_chooses_33 34 rfl rfl 2 rfl ?_
          refine tg_iload C dX5_chooses_34 36 rfl 5 rfl ?_
          refine tg_icmp_ne C 43 dX5_chooses_36 (by decide) 39 rfl (fun c36 => ?_) (fun c36 => ?_)
          · -- to 43
            replace c36 : ¬ b = t + 1 := fun q => c36 ((bv_t (by omega) (by omega)).mpr q)
            refine tg_aload_n C dX5_chooses_43 44 rfl rfl 0 rfl ?_
            refine tg_get (T := TX5) (N := 13) (Cn := RX5) C 89 (by decide) (e_89 ad cy _) rfl w1 5 (by decide) w3 rfl rfl dX5_chooses_44 47 rfl ?_
            refine tg_top (y := nI pr) (hM.2.1.2.2.1) ?_
            refine tg_iadd C (nI ((f9 t) + pr)) dX5_chooses_47 48 rfl (nI_add (f9 t) pr) ?_
            refine tg_istore C dX5_chooses_48 50 rfl [(6, .int (nI ((f9 t) + pr))), (0, .ref (ad 89)), (1, .int (nI p9)), (2, .int (bv b)), (3, .int (bv e9)), (4, .int (nI v9)), (5, .int (nI t))] (by decide) rfl ?_
            refine tg_iload_n C dX5_chooses_50 51 rfl rfl 4 rfl ?_
            refine tg_iconst C (-1) dX5_chooses_51 52 rfl (by decide) ?_
            refine tg_icmp_eq C 62 dX5_chooses_52 (by decide) 55 rfl (fun c52 => ?_) (fun c52 => ?_)
            · -- to 62
              replace c52 := (bv_m1 (by omega)).mp c52
              refine tg_iconst C (nI 1) dX5_chooses_62 63 rfl (by decide) ?_
              refine tg_goto C 67 dX5_chooses_63 (by decide) ?_
              refine tg_istore C dX5_chooses_67 69 rfl [(7, .int (nI 1)), (6, .int (nI ((f9 t) + pr))), (0, .ref (ad 89)), (1, .int (nI p9)), (2, .int (bv b)), (3, .int (bv e9)), (4, .int (nI v9)), (5, .int (nI t))] (by decide) rfl ?_
              refine tg_iload C dX5_chooses_69 71 rfl 0 rfl ?_
              refine tg_if_eq C 79 dX5_chooses_71 (by decide) 74 rfl (fun c71 => absurd c71 (by decide)) (fun c71 => ?_)
              refine tg_iload C dX5_chooses_74 76 rfl 7 rfl ?_
              refine tg_goto C 80 dX5_chooses_76 (by decide) ?_
              refine tg_istore_n C dX5_chooses_80 81 rfl rfl [(3, .int (nI t)), (7, .int (nI 1)), (6, .int (nI ((f9 t) + pr))), (0, .ref (ad 89)), (1, .int (nI p9)), (2, .int (bv b)), (4, .int (nI v9)), (5, .int (nI t))] (by decide) rfl ?_
              refine tg_iload C dX5_chooses_81 83 rfl 1 rfl ?_
              refine tg_if_eq C 91 dX5_chooses_83 (by decide) 86 rfl (fun c83 => absurd c83 (by decide)) (fun c83 => ?_)
              refine tg_iload C dX5_chooses_86 88 rfl 2 rfl ?_
              refine tg_goto C 93 dX5_chooses_88 (by decide) ?_
              refine tg_istore C dX5_chooses_93 95 rfl [(4, .int (nI ((f9 t) + pr))), (3, .int (nI t)), (7, .int (nI 1)), (6, .int (nI ((f9 t) + pr))), (0, .ref (ad 89)), (1, .int (nI p9)), (2, .int (bv b)), (5, .int (nI t))] (by decide) rfl ?_
              refine tg_iinc C (nI (t + 1)) dX5_chooses_95 98 rfl 7 rfl (nI_add t 1) [(5, .int (nI (t + 1))), (4, .int (nI ((f9 t) + pr))), (3, .int (nI t)), (7, .int (nI 1)), (6, .int (nI ((f9 t) + pr))), (0, .ref (ad 89)), (1, .int (nI p9)), (2, .int (bv b))] (by decide) rfl ?_
              refine tg_goto C 8 dX5_chooses_98 (by decide) ?_
              refine tg_sub [5, 6, 7, 2, 1, 0] rfl ?_
              have ho : (f9 t) + pr = (fun u => f9 u + chg pr b u) t := by show _ = f9 t + chg pr b t; unfold chg; first | (rw [if_pos (by omega)]; done) | (rw [if_neg (by omega)]; done)
              have hst := stepC (g := (fun u => f9 u + chg pr b u)) hvv ho (v' := (f9 t) + pr) (e' := t + 1) (Or.inl ⟨rfl, rfl, by omega⟩)
              exact ih8 (t + 1) (t + 1) ((f9 t) + pr) ⟨by omega, by omega, Or.inr ⟨by omega, hst⟩, by omega⟩ (by omega)
            · -- on
              replace c52 : ¬ e9 = 0 := fun q => c52 ((bv_m1 (by omega)).mpr q)
              refine tg_iload C dX5_chooses_55 57 rfl 0 rfl ?_
              refine tg_iload C dX5_chooses_57 59 rfl 5 rfl ?_
              refine tg_icmp_ge C 66 dX5_chooses_59 (by decide) 62 rfl (fun c59 => ?_) (fun c59 => ?_)
              · -- to 66
                replace c59 : v9 ≤ ((f9 t) + pr) := (nI_leI (by omega) (by omega)).mp c59
                refine tg_iconst C (nI 0) dX5_chooses_66 67 rfl (by decide) ?_
                refine tg_istore C dX5_chooses_67 69 rfl [(7, .int (nI 0)), (6, .int (nI ((f9 t) + pr))), (0, .ref (ad 89)), (1, .int (nI p9)), (2, .int (bv b)), (3, .int (bv e9)), (4, .int (nI v9)), (5, .int (nI t))] (by decide) rfl ?_
                refine tg_iload C dX5_chooses_69 71 rfl 0 rfl ?_
                refine tg_if_eq C 79 dX5_chooses_71 (by decide) 74 rfl (fun c71 => ?_) (fun c71 => absurd (by decide) c71)
                refine tg_iload_n C dX5_chooses_79 80 rfl rfl 5 rfl ?_
                refine tg_istore_n C dX5_chooses_80 81 rfl rfl [(3, .int (bv e9)), (7, .int (nI 0)), (6, .int (nI ((f9 t) + pr))), (0, .ref (ad 89)), (1, .int (nI p9)), (2, .int (bv b)), (4, .int (nI v9)), (5, .int (nI t))] (by decide) rfl ?_
                refine tg_iload C dX5_chooses_81 83 rfl 1 rfl ?_
                refine tg_if_eq C 91 dX5_chooses_83 (by decide) 86 rfl (fun c83 => ?_) (fun c83 => absurd (by decide) c83)
                refine tg_iload C dX5_chooses_91 93 rfl 6 rfl ?_
                refine tg_istore C dX5_chooses_93 95 rfl [(4, .int (nI v9)), (3, .int (bv e9)), (7, .int (nI 0)), (6, .int (nI ((f9 t) + pr))), (0, .ref (ad 89)), (1, .int (nI p9)), (2, .int (bv b)), (5, .int (nI t))] (by decide) rfl ?_
                refine tg_iinc C (nI (t + 1)) dX5_chooses_95 98 rfl 7 rfl (nI_add t 1) [(5, .int (nI (t + 1))), (4, .int (nI v9)), (3, .int (bv e9)), (7, .int (nI 0)), (6, .int (nI ((f9 t) + pr))), (0, .ref (ad 89)), (1, .int (nI p9)), (2, .int (bv b))] (by decide) rfl ?_
                refine tg_goto C 8 dX5_chooses_98 (by decide) ?_
                refine tg_sub [5, 6, 7, 2, 1, 0] rfl ?_
                have ho : (f9 t) + pr = (fun u => f9 u + chg pr b u) t := by show _ = f9 t + chg pr b t; unfold chg; first | (rw [if_pos (by omega)]; done) | (rw [if_neg (by omega)]; done)
                have hst := stepC (g := (fun u => f9 u + chg pr b u)) hvv ho (v' := v9) (e' := e9) (Or.inr ⟨rfl, rfl, by omega, by omega⟩)
                exact ih8 (t + 1) (e9) (v9) ⟨by omega, by omega, Or.inr ⟨by omega, hst⟩, by omega⟩ (by omega)
              · -- on
                replace c59 : ¬ v9 ≤ ((f9 t) + pr) := fun q => c59 ((nI_leI (by omega) (by omega)).mpr q)
                refine tg_iconst C (nI 1) dX5_chooses_62 63 rfl (by decide) ?_
                refine tg_goto C 67 dX5_chooses_63 (by decide) ?_
                refine tg_istore C dX5_chooses_67 69 rfl [(7, .int (nI 1)), (6, .int (nI ((f9 t) + pr))), (0, .ref (ad 89)), (1, .int (nI p9)), (2, .int (bv b)), (3, .int (bv e9)), (4, .int (nI v9)), (5, .int (nI t))] (by decide) rfl ?_
                refine tg_iload C dX5_chooses_69 71 rfl 0 rfl ?_
                refine tg_if_eq C 79 dX5_chooses_71 (by decide) 74 rfl (fun c71 => absurd c71 (by decide)) (fun c71 => ?_)
                refine tg_iload C dX5_chooses_74 76 rfl 7 rfl ?_
                refine tg_goto C 80 dX5_chooses_76 (by decide) ?_
                refine tg_istore_n C dX5_chooses_80 81 rfl rfl [(3, .int (nI t)), (7, .int (nI 1)), (6, .int (nI ((f9 t) + pr))), (0, .ref (ad 89)), (1, .int (nI p9)), (2, .int (bv b)), (4, .int (nI v9)), (5, .int (nI t))] (by decide) rfl ?_
                refine tg_iload C dX5_chooses_81 83 rfl 1 rfl ?_
                refine tg_if_eq C 91 dX5_chooses_83 (by decide) 86 rfl (fun c83 => absurd c83 (by decide)) (fun c83 => ?_)
                refine tg_iload C dX5_chooses_86 88 rfl 2 rfl ?_
                refine tg_goto C 93 dX5_chooses_88 (by decide) ?_
                refine tg_istore C dX5_chooses_93 95 rfl [(4, .int (nI ((f9 t) + pr))), (3, .int (nI t)), (7, .int (nI 1)), (6, .int (nI ((f9 t) + pr))), (0, .ref (ad 89)), (1, .int (nI p9)), (2, .int (bv b)), (5, .int (nI t))] (by decide) rfl ?_
                refine tg_iinc C (nI (t + 1)) dX5_chooses_95 98 rfl 7 rfl (nI_add t 1) [(5, .int (nI (t + 1))), (4, .int (nI ((f9 t) + pr))), (3, .int (nI t)), (7, .int (nI 1)), (6, .int (nI ((f9 t) + pr))), (0, .ref (ad 89)), (1, .int (nI p9)), (2, .int (bv b))] (by decide) rfl ?_
                refine tg_goto C 8 dX5_chooses_98 (by decide) ?_
                refine tg_sub [5, 6, 7, 2, 1, 0] rfl ?_
                have ho : (f9 t) + pr = (fun u => f9 u + chg pr b u) t := by show _ = f9 t + chg pr b t; unfold chg; first | (rw [if_pos (by omega)]; done) | (rw [if_neg (by omega)]; done)
                have hst := stepC (g := (fun u => f9 u + chg pr b u)) hvv ho (v' := (f9 t) + pr) (e' := t + 1) (Or.inl ⟨rfl, rfl, by omega⟩)
                exact ih8 (t + 1) (t + 1) ((f9 t) + pr) ⟨by omega, by omega, Or.inr ⟨by omega, hst⟩, by omega⟩ (by omega)
          · -- on
            replace c36 := (bv_t (by omega) (by omega)).mp c36
            refine tg_iconst C (nI 0) dX5_chooses_39 40 rfl (by decide) ?_
            refine tg_goto C 47 dX5_chooses_40 (by decide) ?_
            refine tg_iadd C (nI ((f9 t) + 0)) dX5_chooses_47 48 rfl (nI_add (f9 t) 0) ?_
            refine tg_istore C dX5_chooses_48 50 rfl [(6, .int (nI ((f9 t) + 0))), (0, .ref (ad 89)), (1, .int (nI p9)), (2, .int (bv b)), (3, .int (bv e9)), (4, .int (nI v9)), (5, .int (nI t))] (by decide) rfl ?_
            refine tg_iload_n C dX5_chooses_50 51 rfl rfl 4 rfl ?_
            refine tg_iconst C (-1) dX5_chooses_51 52 rfl (by decide) ?_
            refine tg_icmp_eq C 62 dX5_chooses_52 (by decide) 55 rfl (fun c52 => ?_) (fun c52 => ?_)
            · -- to 62
              replace c52 := (bv_m1 (by omega)).mp c52
              refine tg_iconst C (nI 1) dX5_chooses_62 63 rfl (by decide) ?_
              refine tg_goto C 67 dX5_chooses_63 (by decide) ?_
              refine tg_istore C dX5_chooses_67 69 rfl [(7, .int (nI 1)), (6, .int (nI ((f9 t) + 0))), (0, .ref (ad 89)), (1, .int (nI p9)), (2, .int (bv b)), (3, .int (bv e9)), (4, .int (nI v9)), (5, .int (nI t))] (by decide) rfl ?_
              refine tg_iload C dX5_chooses_69 71 rfl 0 rfl ?_
              refine tg_if_eq C 79 dX5_chooses_71 (by decide) 74 rfl (fun c71 => absurd c71 (by decide)) (fun c71 => ?_)
              refine tg_iload C dX5_chooses_74 76 rfl 7 rfl ?_
              refine tg_goto C 80 dX5_chooses_76 (by decide) ?_
              refine tg_istore_n C dX5_chooses_80 81 rfl rfl [(3, .int (nI t)), (7, .int (nI 1)), (6, .int (nI ((f9 t) + 0))), (0, .ref (ad 89)), (1, .int (nI p9)), (2, .int (bv b)), (4, .int (nI v9)), (5, .int (nI t))] (by decide) rfl ?_
              refine tg_iload C dX5_chooses_81 83 rfl 1 rfl ?_
              refine tg_if_eq C 91 dX5_chooses_83 (by decide) 86 rfl (fun c83 => absurd c83 (by decide)) (fun c83 => ?_)
              refine tg_iload C dX5_chooses_86 88 rfl 2 rfl ?_
              refine tg_goto C 93 dX5_chooses_88 (by decide) ?_
              refine tg_istore C dX5_chooses_93 95 rfl [(4, .int (nI ((f9 t) + 0))), (3, .int (nI t)), (7, .int (nI 1)), (6, .int (nI ((f9 t) + 0))), (0, .ref (ad 89)), (1, .int (nI p9)), (2, .int (bv b)), (5, .int (nI t))] (by decide) rfl ?_
              refine tg_iinc C (nI (t + 1)) dX5_chooses_95 98 rfl 7 rfl (nI_add t 1) [(5, .int (nI (t + 1))), (4, .int (nI ((f9 t) + 0))), (3, .int (nI t)), (7, .int (nI 1)), (6, .int (nI ((f9 t) + 0))), (0, .ref (ad 89)), (1, .int (nI p9)), (2, .int (bv b))] (by decide) rfl ?_
              refine tg_goto C 8 dX5_chooses_98 (by decide) ?_
              refine tg_sub [5, 6, 7, 2, 1, 0] rfl ?_
              have ho : (f9 t) + 0 = (fun u => f9 u + chg pr b u) t := by show _ = f9 t + chg pr b t; unfold chg; first | (rw [if_pos (by omega)]; done) | (rw [if_neg (by omega)]; done)
              have hst := stepC (g := (fun u => f9 u + chg pr b u)) hvv ho (v' := (f9 t) + 0) (e' := t + 1) (Or.inl ⟨rfl, rfl, by omega⟩)
              exact ih8 (t + 1) (t + 1) ((f9 t) + 0) ⟨by omega, by omega, Or.inr ⟨by omega, hst⟩, by omega⟩ (by omega)
            · -- on
              replace c52 : ¬ e9 = 0 := fun q => c52 ((bv_m1 (by omega)).mpr q)
              refine tg_iload C dX5_chooses_55 57 rfl 0 rfl ?_
              refine tg_iload C dX5_chooses_57 59 rfl 5 rfl ?_
              refine tg_icmp_ge C 66 dX5_chooses_59 (by decide) 62 rfl (fun c59 => ?_) (fun c59 => ?_)
              · -- to 66
                replace c59 : v9 ≤ ((f9 t) + 0) := (nI_leI (by omega) (by omega)).mp c59
                refine tg_iconst C (nI 0) dX5_chooses_66 67 rfl (by decide) ?_
                refine tg_istore C dX5_chooses_67 69 rfl [(7, .int (nI 0)), (6, .int (nI ((f9 t) + 0))), (0, .ref (ad 89)), (1, .int (nI p9)), (2, .int (bv b)), (3, .int (bv e9)), (4, .int (nI v9)), (5, .int (nI t))] (by decide) rfl ?_
                refine tg_iload C dX5_chooses_69 71 rfl 0 rfl ?_
                refine tg_if_eq C 79 dX5_chooses_71 (by decide) 74 rfl (fun c71 => ?_) (fun c71 => absurd (by decide) c71)
                refine tg_iload_n C dX5_chooses_79 80 rfl rfl 5 rfl ?_
                refine tg_istore_n C dX5_chooses_80 81 rfl rfl [(3, .int (bv e9)), (7, .int (nI 0)), (6, .int (nI ((f9 t) + 0))), (0, .ref (ad 89)), (1, .int (nI p9)), (2, .int (bv b)), (4, .int (nI v9)), (5, .int (nI t))] (by decide) rfl ?_
                refine tg_iload C dX5_chooses_81 83 rfl 1 rfl ?_
                refine tg_if_eq C 91 dX5_chooses_83 (by decide) 86 rfl (fun c83 => ?_) (fun c83 => absurd (by decide) c83)
                refine tg_iload C dX5_chooses_91 93 rfl 6 rfl ?_
                refine tg_istore C dX5_chooses_93 95 rfl [(4, .int (nI v9)), (3, .int (bv e9)), (7, .int (nI 0)), (6, .int (nI ((f9 t) + 0))), (0, .ref (ad 89)), (1, .int (nI p9)), (2, .int (bv b)), (5, .int (nI t))] (by decide) rfl ?_
                refine tg_iinc C (nI (t + 1)) dX5_chooses_95 98 rfl 7 rfl (nI_add t 1) [(5, .int (nI (t + 1))), (4, .int (nI v9)), (3, .int (bv e9)), (7, .int (nI 0)), (6, .int (nI ((f9 t) + 0))), (0, .ref (ad 89)), (1, .int (nI p9)), (2, .int (bv b))] (by decide) rfl ?_
                refine tg_goto C 8 dX5_chooses_98 (by decide) ?_
                refine tg_sub [5, 6, 7, 2, 1, 0] rfl ?_
                have ho : (f9 t) + 0 = (fun u => f9 u + chg pr b u) t := by show _ = f9 t + chg pr b t; unfold chg; first | (rw [if_pos (by omega)]; done) | (rw [if_neg (by omega)]; done)
                have hst := stepC (g := (fun u => f9 u + chg pr b u)) hvv ho (v' := v9) (e' := e9) (Or.inr ⟨rfl, rfl, by omega, by omega⟩)
                exact ih8 (t + 1) (e9) (v9) ⟨by omega, by omega, Or.inr ⟨by omega, hst⟩, by omega⟩ (by omega)
              · -- on
                replace c59 : ¬ v9 ≤ ((f9 t) + 0) := fun q => c59 ((nI_leI (by omega) (by omega)).mpr q)
                refine tg_iconst C (nI 1) dX5_chooses_62 63 rfl (by decide) ?_
                refine tg_goto C 67 dX5_chooses_63 (by decide) ?_
                refine tg_istore C dX5_chooses_67 69 rfl [(7, .int (nI 1)), (6, .int (nI ((f9 t) + 0))), (0, .ref (ad 89)), (1, .int (nI p9)), (2, .int (bv b)), (3, .int (bv e9)), (4, .int (nI v9)), (5, .int (nI t))] (by decide) rfl ?_
                refine tg_iload C dX5_chooses_69 71 rfl 0 rfl ?_
                refine tg_if_eq C 79 dX5_chooses_71 (by decide) 74 rfl (fun c71 => absurd c71 (by decide)) (fun c71 => ?_)
                refine tg_iload C dX5_chooses_74 76 rfl 7 rfl ?_
                refine tg_goto C 80 dX5_chooses_76 (by decide) ?_
                refine tg_istore_n C dX5_chooses_80 81 rfl rfl [(3, .int (nI t)), (7, .int (nI 1)), (6, .int (nI ((f9 t) + 0))), (0, .ref (ad 89)), (1, .int (nI p9)), (2, .int (bv b)), (4, .int (nI v9)), (5, .int (nI t))] (by decide) rfl ?_
                refine tg_iload C dX5_chooses_81 83 rfl 1 rfl ?_
                refine tg_if_eq C 91 dX5_chooses_83 (by decide) 86 rfl (fun c83 => absurd c83 (by decide)) (fun c83 => ?_)
                refine tg_iload C dX5_chooses_86 88 rfl 2 rfl ?_
                refine tg_goto C 93 dX5_chooses_88 (by decide) ?_
                refine tg_istore C dX5_chooses_93 95 rfl [(4, .int (nI ((f9 t) + 0))), (3, .int (nI t)), (7, .int (nI 1)), (6, .int (nI ((f9 t) + 0))), (0, .ref (ad 89)), (1, .int (nI p9)), (2, .int (bv b)), (5, .int (nI t))] (by decide) rfl ?_
                refine tg_iinc C (nI (t + 1)) dX5_chooses_95 98 rfl 7 rfl (nI_add t 1) [(5, .int (nI (t + 1))), (4, .int (nI ((f9 t) + 0))), (3, .int (nI t)), (7, .int (nI 1)), (6, .int (nI ((f9 t) + 0))), (0, .ref (ad 89)), (1, .int (nI p9)), (2, .int (bv b))] (by decide) rfl ?_
                refine tg_goto C 8 dX5_chooses_98 (by decide) ?_
                refine tg_sub [5, 6, 7, 2, 1, 0] rfl ?_
                have ho : (f9 t) + 0 = (fun u => f9 u + chg pr b u) t := by show _ = f9 t + chg pr b t; unfold chg; first | (rw [if_pos (by omega)]; done) | (rw [if_neg (by omega)]; done)
                have hst := stepC (g := (fun u => f9 u + chg pr b u)) hvv ho (v' := (f9 t) + 0) (e' := t + 1) (Or.inl ⟨rfl, rfl, by omega⟩)
                exact ih8 (t + 1) (t + 1) ((f9 t) + 0) ⟨by omega, by omega, Or.inr ⟨by omega, hst⟩, by omega⟩ (by omega)
  refine tg_sub [3, 4, 5, 2, 1, 0] rfl ?_
  exact L8 _ 0 0 0 ⟨by omega, by omega, Or.inl ⟨rfl, rfl, rfl⟩, by omega⟩ (Nat.lt_succ_self _)
set_option maxHeartbeats 4000000 in
set_option maxRecDepth 100000 in
theorem c_X5_lays (l : Launch) (D : va_G) (cy : Nat → ClassId) (ad : Nat → Nat) (hDis : Dis ad) (σ : sS) {n : Nat} {w : Nat → Nat} {tc mg pr tx nx : Nat} {nm wh wd : Nat → Nat} {kp : Nat → Nat → Nat} (hM : MM σ n w tc mg pr tx nx nm wh wd kp) (htc : 0 < tc) : Mv l yX5_lays wsX5_lays 2 50 D cy ad [.ref (ad 89)] σ (fun τ => Rr τ (rc n) tc 0 (kst n w (cntN wh wd kp tx) (totN wh wd tx)) pr ∧ ∀ j, j ≠ 95 → τ j = σ j) := by
  have w0 : Cond.fieldLink RX5 38 "TonguetellModel" "tongueMany" "I" ∈ wsX5_lays := by decide +kernel
  have w1 : ∀ w ∈ wsX50, w ∈ wsX5_lays := by decide +kernel
  have w2 : Cond.fieldLink RX5 32 "TonguetellModel" "rest" "[I" ∈ wsX5_lays := by decide +kernel
  have hn16 := hM.1.2.1
  have htc5 := hM.2.1.2.2.2.1
  have htx := hM.2.2.2.2.1
  have hrc := rc_le hn16
  have hrn := hM.rn_lt
  have hwd := hM.wd_le
  have hmg := hM.2.1.2.2.2.2.1
  have hpr := hM.2.1.2.2.2.2.2
  have hnx := hM.2.2.2.2.2.1
  have hkl : ∀ p t, p < rc n → t < tc → (kst n w (cntN wh wd kp tx) (totN wh wd tx)) p t ≤ 10 := fun _ _ _ _ => costN_le _ _
  refine Mv.of (cc := cX5_lays) (nL := 4) (own := RX5) hDis (by decide) rfl [(0, .ref (ad 89))] rfl (Nat.le_of_ble_eq_true rfl) rfl ?_
  intro p e s m args below meth c A Q C hret
  refine tg_aload_n C dX5_lays_0 1 rfl rfl 0 rfl ?_
  refine tg_callVi C 89 (by decide) (e_89 ad cy _) rfl (c_X5_runMany l D cy ad hDis σ hM) (cwV 0 C.2.2.2.2.1 gX5_lays_X5_runMany rfl rfl rfl (by decide +kernel) ⟨Nat.le_of_ble_eq_true rfl, Nat.le_of_ble_eq_true rfl⟩) rfl rfl (Nat.le_of_ble_eq_true rfl) ⟨Nat.le_of_ble_eq_true rfl, Nat.le_of_ble_eq_true rfl⟩ dX5_lays_1 4 rfl (fun r1 τ1 h1 => ?_)
  obtain ⟨h1, h1s⟩ := h1
  subst h1s
  subst h1
  refine tg_iconst C (nI 1) dX5_lays_4 5 rfl (by decide) ?_
  refine tg_isub C (bv (rc n)) dX5_lays_5 6 rfl (bv_pred (rc n)) ?_
  refine tg_istore_n C dX5_lays_6 7 rfl rfl [(1, .int (bv (rc n))), (0, .ref (ad 89))] (by decide) rfl ?_
  have L7 : ∀ (n7 : Nat) (q : Nat) (σ1 : sS), (q ≤ rc n ∧ Rr σ1 (rc n) tc q (kst n w (cntN wh wd kp tx) (totN wh wd tx)) pr ∧ ∀ j, j ≠ 95 → σ1 j = σ j) → q < n7 → TT p l e (Rm 2 50) s m args below meth c D cy ad A 4 0 0 Q σ1 7 [(0, .ref (ad 89)), (1, .int (bv q))] [] := by
    intro n7
    induction n7 with
    | zero => intro q σ1 _ hn7; exact absurd hn7 (Nat.not_lt_zero _)
    | succ n7 ih7 =>
      intro q σ1 ⟨hq, hR, hf⟩ hn7
      have hM1 : MM σ1 n w tc mg pr tx nx nm wh wd kp := hM.fr (fun k _ => by rw [hf 89 (by decide)]) (fun j h1 h2 => hf j (by omega))
      refine tg_iload_n C dX5_lays_7 8 rfl rfl 1 rfl ?_
      refine tg_if_lt C 76 dX5_lays_8 (by decide) 11 rfl (fun c8 => ?_) (fun c8 => ?_)
      · -- to 76
        replace c8 := (bv_lt (by omega)).mp c8
        subst c8
        exact hret dX5_lays_76 ⟨hR, hf⟩
      · -- on
        obtain ⟨p9, rfl⟩ : ∃ p9, q = p9 + 1 := ⟨q - 1, by have : q ≠ 0 := fun h => c8 ((bv_lt (by omega)).mpr h); omega⟩
        refine tg_sub (lv' := [(0, .ref (ad 89)), (1, .int (nI p9))]) [0, 1] rfl ?_
        refine tg_iconst C (nI 0) dX5_lays_11 12 rfl (by decide) ?_
        refine tg_istore_n C dX5_lays_12 13 rfl rfl [(2, .int (nI 0)), (0, .ref (ad 89)), (1, .int (nI p9))] (by decide) rfl ?_
        have L13 : ∀ (n13 : Nat) (t : Nat) (σ2 : sS), (t ≤ tc ∧ (∀ u, u < t → σ2 95 (5 * p9 + u) = nI (rb (kst n w (cntN wh wd kp tx) (totN wh wd tx)) pr tc (rc n) (rc n - p9) u)) ∧ (∀ i, (i < 5 * p9 ∨ 5 * p9 + 5 ≤ i) → σ2 95 i = σ1 95 i) ∧ ∀ j, j ≠ 95 → σ2 j = σ1 j) → tc - t < n13 → TT p l e (Rm 2 50) s m args below meth c D cy ad A 4 0 0 Q σ2 13 [(0, .ref (ad 89)), (1, .int (nI p9)), (2, .int (nI t))] [] := by
          intro n13
          induction n13 with
          | zero => intro t σ2 _ hn13; exact absurd hn13 (Nat.not_lt_zero _)
          | succ n13 ih13 =>
            intro t σ2 ⟨ht, hr, ho, hf2⟩ hn13
            have hM2 : MM σ2 n w tc mg pr tx nx nm wh wd kp := hM1.fr (fun k _ => by rw [hf2 89 (by decide)]) (fun j h1 h2 => hf2 j (by omega))
            refine tg_iload_n C dX5_lays_13 14 rfl rfl 2 rfl ?_
            refine tg_aload_n C dX5_lays_14 15 rfl rfl 0 rfl ?_
            refine tg_get (T := TX5) (N := 13) (Cn := RX5) C 89 (by decide) (e_89 ad cy _) rfl w1 3 (by decide) w0 rfl rfl dX5_lays_15 18 rfl ?_
            refine tg_top (y := nI tc) (hM2.2.1.1) ?_
            refine tg_icmp_ge C 70 dX5_lays_18 (by decide) 21 rfl (fun c18 => ?_) (fun c18 => ?_)
            · -- to 70
              replace c18 : tc ≤ t := (nI_leI (by omega) (by omega)).mp c18
              refine tg_iinc C (bv p9) dX5_lays_70 73 rfl 1 rfl (bv_dec p9) [(1, .int (bv p9)), (0, .ref (ad 89)), (2, .int (nI t))] (by decide) rfl ?_
              refine tg_goto C 7 dX5_lays_73 (by decide) ?_
              refine tg_sub [1, 0] rfl ?_
              refine ih7 p9 σ2 ⟨by omega, fun p t h1 h2 h3 => ?_, fun j hj => by rw [hf2 j hj]; exact hf j hj⟩ (by omega)
              by_cases hp : p = p9
              · rw [hp]; exact hr t (by omega)
              · rw [ho (5 * p + t) (by omega)]; exact hR p t (by omega) h2 h3
            · -- on
              replace c18 : ¬ tc ≤ t := fun q => c18 ((nI_leI (by omega) (by omega)).mpr q)
              refine tg_iload_n C dX5_lays_21 22 rfl rfl 1 rfl ?_
              refine tg_aload_n C dX5_lays_22 23 rfl rfl 0 rfl ?_
              refine tg_callVi C 89 (by decide) (e_89 ad cy _) rfl (c_X5_runMany l D cy ad hDis σ2 hM2) (cwV 0 C.2.2.2.2.1 gX5_lays_X5_runMany rfl rfl rfl (by decide +kernel) ⟨Nat.le_of_ble_eq_true rfl, Nat.le_of_ble_eq_true rfl⟩) rfl rfl (Nat.le_of_ble_eq_true rfl) ⟨Nat.le_of_ble_eq_true rfl, Nat.le_of_ble_eq_true rfl⟩ dX5_lays_23 26 rfl (fun r23 τ23 h23 => ?_)
              obtain ⟨h23, h23s⟩ := h23
              subst h23s
              subst h23
              refine tg_iconst C (nI 1) dX5_lays_26 27 rfl (by decide) ?_
              refine tg_isub C (nI ((rc n) - 1)) dX5_lays_27 28 rfl (pk_sub (by omega)) ?_
              refine tg_icmp_ne C 35 dX5_lays_28 (by decide) 31 rfl (fun c28 => ?_) (fun c28 => ?_)
              · -- to 35
                replace c28 : ¬ p9 = ((rc n) - 1) := fun q => c28 ((nI_eq (by omega) (by omega)).mpr q)
                refine tg_aload_n C dX5_lays_35 36 rfl rfl 0 rfl ?_
                refine tg_iload_n C dX5_lays_36 37 rfl rfl 1 rfl ?_
                refine tg_iload_n C dX5_lays_37 38 rfl rfl 2 rfl ?_
                have hrw : ∀ u, u < tc → σ2 95 (5 * (p9 + 1) + u) = nI (rb (kst n w (cntN wh wd kp tx) (totN wh wd tx)) pr tc (rc n) (rc n - (p9 + 1)) u) ∧ rb (kst n w (cntN wh wd kp tx) (totN wh wd tx)) pr tc (rc n) (rc n - (p9 + 1)) u ≤ 100000 := fun u h => ⟨by rw [ho _ (by omega)]; exact hR (p9 + 1) u (Nat.le_refl _) (by omega) h, by have := rb_le hkl hpr htc (rc n - (p9 + 1)) u (by omega) h; omega⟩
                refine tg_callVi C 89 (by decide) (e_89 ad cy _) rfl (c_X5_behind l D cy ad hDis σ2 hM2 htc (p9 := p9) (t1 := t) (f9 := rb (kst n w (cntN wh wd kp tx) (totN wh wd tx)) pr tc (rc n) (rc n - (p9 + 1))) (by omega) (by omega) hrw) (cwV 2 C.2.2.2.2.1 gX5_lays_X5_behind rfl rfl rfl (by decide +kernel) ⟨Nat.le_of_ble_eq_true rfl, Nat.le_of_ble_eq_true rfl⟩) rfl rfl (Nat.le_of_ble_eq_true rfl) ⟨Nat.le_of_ble_eq_true rfl, Nat.le_of_ble_eq_true rfl⟩ dX5_lays_38 41 rfl (fun r38 τ38 h38 => ?_)
                obtain ⟨h38, h38s⟩ := h38
                subst h38s
                subst h38
                refine tg_top (y := nI (lb (kst n w (cntN wh wd kp tx) (totN wh wd tx)) pr tc (rc n) (rc n - (p9 + 1)) (t + 1))) (by unfold lb; rw [if_neg (by omega)]) ?_
                refine tg_istore_n C dX5_lays_41 42 rfl rfl [(3, .int (nI (lb (kst n w (cntN wh wd kp tx) (totN wh wd tx)) pr tc (rc n) (rc n - (p9 + 1)) (t + 1)))), (0, .ref (ad 89)), (1, .int (nI p9)), (2, .int (nI t))] (by decide) rfl ?_
                refine tg_aload_n C dX5_lays_42 43 rfl rfl 1 rfl ?_
                refine tg_get (T := TX5) (N := 13) (Cn := RX5) C 89 (by decide) (e_89 ad cy _) rfl w1 12 (by decide) w2 rfl rfl dX5_lays_43 46 rfl ?_
                refine tg_iconst C (nI 5) dX5_lays_46 47 rfl (by decide) ?_
                refine tg_iload_n C dX5_lays_47 48 rfl rfl 2 rfl ?_
                refine tg_imul C (nI (5 * p9)) dX5_lays_48 49 rfl (pk_mul 5 p9) ?_
                refine tg_iload_n C dX5_lays_49 50 rfl rfl 3 rfl ?_
                refine tg_iadd C (nI ((5 * p9) + t)) dX5_lays_50 51 rfl (nI_add (5 * p9) t) ?_
                refine tg_aload_n C dX5_lays_51 52 rfl rfl 1 rfl ?_
                refine tg_iload_n C dX5_lays_52 53 rfl rfl 3 rfl ?_
                refine tg_aload_n C dX5_lays_53 54 rfl rfl 1 rfl ?_
                refine tg_iload_n C dX5_lays_54 55 rfl rfl 2 rfl ?_
                refine tg_callVi C 89 (by decide) (e_89 ad cy _) rfl (c_X5_run l D cy ad hDis σ2 hM2 (k := p9) (rc_lt (by omega))) (cwV 1 C.2.2.2.2.1 gX5_lays_X5_run rfl rfl rfl (by decide +kernel) ⟨Nat.le_of_ble_eq_true rfl, Nat.le_of_ble_eq_true rfl⟩) rfl rfl (Nat.le_of_ble_eq_true rfl) ⟨Nat.le_of_ble_eq_true rfl, Nat.le_of_ble_eq_true rfl⟩ dX5_lays_55 58 rfl (fun r55 τ55 h55 => ?_)
                obtain ⟨h55, h55s⟩ := h55
                subst h55s
                subst h55
                refine tg_callVi C 89 (by decide) (e_89 ad cy _) rfl (c_X5_costOf l D cy ad hDis σ2 hM2 (t := t) (r9 := rn n w p9) (by omega) (by have := hrn p9; omega)) (cwV 2 C.2.2.2.2.1 gX5_lays_X5_costOf rfl rfl rfl (by decide +kernel) ⟨Nat.le_of_ble_eq_true rfl, Nat.le_of_ble_eq_true rfl⟩) rfl rfl (Nat.le_of_ble_eq_true rfl) ⟨Nat.le_of_ble_eq_true rfl, Nat.le_of_ble_eq_true rfl⟩ dX5_lays_58 61 rfl (fun r58 τ58 h58 => ?_)
                obtain ⟨h58, h58s⟩ := h58
                subst h58s
                subst h58
                refine tg_iload_n C dX5_lays_61 62 rfl rfl 0 rfl ?_
                refine tg_iadd C (nI ((costN (cntN wh wd kp tx t (rn n w p9)) (totN wh wd tx t)) + (lb (kst n w (cntN wh wd kp tx) (totN wh wd tx)) pr tc (rc n) (rc n - (p9 + 1)) (t + 1)))) dX5_lays_62 63 rfl (nI_add (costN (cntN wh wd kp tx t (rn n w p9)) (totN wh wd tx t)) (lb (kst n w (cntN wh wd kp tx) (totN wh wd tx)) pr tc (rc n) (rc n - (p9 + 1)) (t + 1))) ?_
                refine tg_iast C 95 (by decide) (e_95 ad cy) ((5 * p9) + t) rfl (by omega) (by decide) dX5_lays_63 64 rfl ?_
                refine tg_iinc C (nI (t + 1)) dX5_lays_64 67 rfl 3 rfl (nI_add t 1) [(2, .int (nI (t + 1))), (3, .int (nI (lb (kst n w (cntN wh wd kp tx) (totN wh wd tx)) pr tc (rc n) (rc n - (p9 + 1)) (t + 1)))), (0, .ref (ad 89)), (1, .int (nI p9))] (by decide) rfl ?_
                refine tg_goto C 13 dX5_lays_67 (by decide) ?_
                refine tg_sub [2, 3, 0] rfl ?_
                refine ih13 (t + 1) (su σ2 95 ((5 * p9) + t) (nI ((costN (cntN wh wd kp tx t (rn n w p9)) (totN wh wd tx t)) + (lb (kst n w (cntN wh wd kp tx) (totN wh wd tx)) pr tc (rc n) (rc n - (p9 + 1)) (t + 1))))) ⟨by omega, fun u hu => ?_, fun i hi => by rw [su_nk _ _ _ (by omega)]; exact ho i hi, fun j hj => by rw [su_ni _ _ _ hj]; exact hf2 j hj⟩ (by omega)
                rw [su_ap]
                split
                · rename_i hh
                  have e := rb_succ (kst n w (cntN wh wd kp tx) (totN wh wd tx)) pr tc (rc n) (rc n - (p9 + 1)) t
                  rw [show rc n - (p9 + 1) + 1 = rc n - p9 by omega, show rc n - (rc n - p9) = p9 by omega] at e
                  rw [show u = t by omega, e]
                  rfl
                · exact hr u (by omega)
              · -- on
                replace c28 : p9 = ((rc n) - 1) := (nI_eq (by omega) (by omega)).mp c28
                refine tg_iconst C (nI 0) dX5_lays_31 32 rfl (by decide) ?_
                refine tg_top (y := nI (lb (kst n w (cntN wh wd kp tx) (totN wh wd tx)) pr tc (rc n) (rc n - (p9 + 1)) (t + 1))) (by rw [show rc n - (p9 + 1) = 0 by omega]; rfl) ?_
                refine tg_goto C 41 dX5_lays_32 (by decide) ?_
                refine tg_istore_n C dX5_lays_41 42 rfl rfl [(3, .int (nI (lb (kst n w (cntN wh wd kp tx) (totN wh wd tx)) pr tc (rc n) (rc n - (p9 + 1)) (t + 1)))), (0, .ref (ad 89)), (1, .int (nI p9)), (2, .int (nI t))] (by decide) rfl ?_
                refine tg_aload_n C dX5_lays_42 43 rfl rfl 1 rfl ?_
                refine tg_get (T := TX5) (N := 13) (Cn := RX5) C 89 (by decide) (e_89 ad cy _) rfl w1 12 (by decide) w2 rfl rfl dX5_lays_43 46 rfl ?_
                refine tg_iconst C (nI 5) dX5_lays_46 47 rfl (by decide) ?_
                refine tg_iload_n C dX5_lays_47 48 rfl rfl 2 rfl ?_
                refine tg_imul C (nI (5 * p9)) dX5_lays_48 49 rfl (pk_mul 5 p9) ?_
                refine tg_iload_n C dX5_lays_49 50 rfl rfl 3 rfl ?_
                refine tg_iadd C (nI ((5 * p9) + t)) dX5_lays_50 51 rfl (nI_add (5 * p9) t) ?_
                refine tg_aload_n C dX5_lays_51 52 rfl rfl 1 rfl ?_
                refine tg_iload_n C dX5_lays_52 53 rfl rfl 3 rfl ?_
                refine tg_aload_n C dX5_lays_53 54 rfl rfl 1 rfl ?_
                refine tg_iload_n C dX5_lays_54 55 rfl rfl 2 rfl ?_
                refine tg_callVi C 89 (by decide) (e_89 ad cy _) rfl (c_X5_run l D cy ad hDis σ2 hM2 (k := p9) (rc_lt (by omega))) (cwV 1 C.2.2.2.2.1 gX5_lays_X5_run rfl rfl rfl (by decide +kernel) ⟨Nat.le_of_ble_eq_true rfl, Nat.le_of_ble_eq_true rfl⟩) rfl rfl (Nat.le_of_ble_eq_true rfl) ⟨Nat.le_of_ble_eq_true rfl, Nat.le_of_ble_eq_true rfl⟩ dX5_lays_55 58 rfl (fun r55 τ55 h55 => ?_)
                obtain ⟨h55, h55s⟩ := h55
                subst h55s
                subst h55
                refine tg_callVi C 89 (by decide) (e_89 ad cy _) rfl (c_X5_costOf l D cy ad hDis σ2 hM2 (t := t) (r9 := rn n w p9) (by omega) (by have := hrn p9; omega)) (cwV 2 C.2.2.2.2.1 gX5_lays_X5_costOf rfl rfl rfl (by decide +kernel) ⟨Nat.le_of_ble_eq_true rfl, Nat.le_of_ble_eq_true rfl⟩) rfl rfl (Nat.le_of_ble_eq_true rfl) ⟨Nat.le_of_ble_eq_true rfl, Nat.le_of_ble_eq_true rfl⟩ dX5_lays_58 61 rfl (fun r58 τ58 h58 => ?_)
                obtain ⟨h58, h58s⟩ := h58
                subst h58s
                subst h58
                refine tg_iload_n C dX5_lays_61 62 rfl rfl 0 rfl ?_
                refine tg_iadd C (nI ((costN (cntN wh wd kp tx t (rn n w p9)) (totN wh wd tx t)) + (lb (kst n w (cntN wh wd kp tx) (totN wh wd tx)) pr tc (rc n) (rc n - (p9 + 1)) (t + 1)))) dX5_lays_62 63 rfl (nI_add (costN (cntN wh wd kp tx t (rn n w p9)) (totN wh wd tx t)) (lb (kst n w (cntN wh wd kp tx) (totN wh wd tx)) pr tc (rc n) (rc n - (p9 + 1)) (t + 1))) ?_
                refine tg_iast C 95 (by decide) (e_95 ad cy) ((5 * p9) + t) rfl (by omega) (by decide) dX5_lays_63 64 rfl ?_
                refine tg_iinc C (nI (t + 1)) dX5_lays_64 67 rfl 3 rfl (nI_add t 1) [(2, .int (nI (t + 1))), (3, .int (nI (lb (kst n w (cntN wh wd kp tx) (totN wh wd tx)) pr tc (rc n) (rc n - (p9 + 1)) (t + 1)))), (0, .ref (ad 89)), (1, .int (nI p9))] (by decide) rfl ?_
                refine tg_goto C 13 dX5_lays_67 (by decide) ?_
                refine tg_sub [2, 3, 0] rfl ?_
                refine ih13 (t + 1) (su σ2 95 ((5 * p9) + t) (nI ((costN (cntN wh wd kp tx t (rn n w p9)) (totN wh wd tx t)) + (lb (kst n w (cntN wh wd kp tx) (totN wh wd tx)) pr tc (rc n) (rc n - (p9 + 1)) (t + 1))))) ⟨by omega, fun u hu => ?_, fun i hi => by rw [su_nk _ _ _ (by omega)]; exact ho i hi, fun j hj => by rw [su_ni _ _ _ hj]; exact hf2 j hj⟩ (by omega)
                rw [su_ap]
                split
                · rename_i hh
                  have e := rb_succ (kst n w (cntN wh wd kp tx) (totN wh wd tx)) pr tc (rc n) (rc n - (p9 + 1)) t
                  rw [show rc n - (p9 + 1) + 1 = rc n - p9 by omega, show rc n - (rc n - p9) = p9 by omega] at e
                  rw [show u = t by omega, e]
                  rfl
                · exact hr u (by omega)
        refine tg_sub [1, 2, 0] rfl ?_
        exact L13 _ 0 σ1 ⟨by omega, fun u h => by omega, fun i _ => rfl, fun j _ => rfl⟩ (Nat.lt_succ_self _)
  refine tg_sub [1, 0] rfl ?_
  exact L7 _ (rc n) σ ⟨Nat.le_refl _, fun p t h1 h2 => by omega, fun j _ => rfl⟩ (Nat.lt_succ_self _)
set_option maxHeartbeats 4000000 in
set_option maxRecDepth 100000 in
theorem c_X5_leastCut (l : Launch) (D : va_G) (cy : Nat → ClassId) (ad : Nat → Nat) (hDis : Dis ad) (σ : sS) {n : Nat} {w : Nat → Nat} {tc mg pr tx nx : Nat} {nm wh wd : Nat → Nat} {kp : Nat → Nat → Nat} (hM : MM σ n w tc mg pr tx nx nm wh wd kp) (htc : 0 < tc) : Mi l yX5_leastCut wsX5_leastCut 3 73 D cy ad [.ref (ad 89)] σ (fun r τ => r = nI (lb (kst n w (cntN wh wd kp tx) (totN wh wd tx)) pr tc (rc n) (rc n) 0) ∧ ∀ j, j ≠ 95 → τ j = σ j) := by
  have w0 : Cond.fieldLink RX5 32 "TonguetellModel" "rest" "[I" ∈ wsX5_leastCut := by decide +kernel
  have w1 : ∀ w ∈ wsX50, w ∈ wsX5_leastCut := by decide +kernel
  have hn16 := hM.1.2.1
  have htc5 := hM.2.1.2.2.2.1
  have htx := hM.2.2.2.2.1
  have hrc := rc_le hn16
  have hrn := hM.rn_lt
  have hwd := hM.wd_le
  have hmg := hM.2.1.2.2.2.2.1
  have hpr := hM.2.1.2.2.2.2.2
  have hnx := hM.2.2.2.2.2.1
  have hkl : ∀ p t, p < rc n → t < tc → (kst n w (cntN wh wd kp tx) (totN wh wd tx)) p t ≤ 10 := fun _ _ _ _ => costN_le _ _
  refine Mi.of (cc := cX5_leastCut) (nL := 1) (own := RX5) hDis (by decide) rfl [(0, .ref (ad 89))] rfl (Nat.le_of_ble_eq_true rfl) rfl ?_
  intro p e s m args below meth c A Q C hret
  refine tg_aload_n C dX5_leastCut_0 1 rfl rfl 0 rfl ?_
  refine tg_callVv C 89 (by decide) (e_89 ad cy _) rfl (c_X5_lays l D cy ad hDis σ hM htc) (cwV 0 C.2.2.2.2.1 gX5_leastCut_X5_lays rfl rfl rfl (by decide +kernel) ⟨Nat.le_of_ble_eq_true rfl, Nat.le_of_ble_eq_true rfl⟩) rfl rfl (Nat.le_of_ble_eq_true rfl) ⟨Nat.le_of_ble_eq_true rfl, Nat.le_of_ble_eq_true rfl⟩ dX5_leastCut_1 4 rfl (fun τ1 h1 => ?_)
  have hM1 : MM τ1 n w tc mg pr tx nx nm wh wd kp := hM.fr (fun k _ => by rw [h1.2 89 (by decide)]) (fun j hj1 hj2 => h1.2 j (by omega))
  refine tg_aload_n C dX5_leastCut_4 5 rfl rfl 0 rfl ?_
  refine tg_callVi C 89 (by decide) (e_89 ad cy _) rfl (c_X5_runMany l D cy ad hDis τ1 hM1) (cwV 0 C.2.2.2.2.1 gX5_leastCut_X5_runMany rfl rfl rfl (by decide +kernel) ⟨Nat.le_of_ble_eq_true rfl, Nat.le_of_ble_eq_true rfl⟩) rfl rfl (Nat.le_of_ble_eq_true rfl) ⟨Nat.le_of_ble_eq_true rfl, Nat.le_of_ble_eq_true rfl⟩ dX5_leastCut_5 8 rfl (fun r5 τ5 h5 => ?_)
  obtain ⟨h5, h5s⟩ := h5
  subst h5s
  subst h5
  refine tg_if_ne C 15 dX5_leastCut_8 (by decide) 11 rfl (fun c8 => ?_) (fun c8 => ?_)
  · -- to 15
    replace c8 : ¬ (rc n) = 0 := fun q => c8 ((z_eq (by omega)).mpr q)
    refine tg_aload_n C dX5_leastCut_15 16 rfl rfl 0 rfl ?_
    refine tg_get (T := TX5) (N := 13) (Cn := RX5) C 89 (by decide) (e_89 ad cy _) rfl w1 12 (by decide) w0 rfl rfl dX5_leastCut_16 19 rfl ?_
    refine tg_aload_n C dX5_leastCut_19 20 rfl rfl 0 rfl ?_
    refine tg_iconst C (nI 0) dX5_leastCut_20 21 rfl (by decide) ?_
    refine tg_iconst C (-1) dX5_leastCut_21 22 rfl (by decide) ?_
    have hrow : ∀ u, u < tc → τ1 95 (5 * 0 + u) = nI (rb (kst n w (cntN wh wd kp tx) (totN wh wd tx)) pr tc (rc n) (rc n) u) ∧ rb (kst n w (cntN wh wd kp tx) (totN wh wd tx)) pr tc (rc n) (rc n) u ≤ 100000 := fun u h => ⟨h1.1 0 u (Nat.le_refl _) (by omega) h, by have := rb_le hkl hpr htc (rc n) u (by omega) h; omega⟩
    have ham := amin_lt (fun u => rb (kst n w (cntN wh wd kp tx) (totN wh wd tx)) pr tc (rc n) (rc n) u + chg pr 0 u) tc htc
    refine tg_callVi C 89 (by decide) (e_89 ad cy _) rfl (c_X5_chooses l D cy ad hDis τ1 hM1 htc (p9 := 0) (b := 0) (f9 := rb (kst n w (cntN wh wd kp tx) (totN wh wd tx)) pr tc (rc n) (rc n)) (by omega) (by omega) hrow) (cwV 2 C.2.2.2.2.1 gX5_leastCut_X5_chooses rfl rfl rfl (by decide +kernel) ⟨Nat.le_of_ble_eq_true rfl, Nat.le_of_ble_eq_true rfl⟩) rfl rfl (Nat.le_of_ble_eq_true rfl) ⟨Nat.le_of_ble_eq_true rfl, Nat.le_of_ble_eq_true rfl⟩ dX5_leastCut_22 25 rfl (fun r22 τ22 h22 => ?_)
    obtain ⟨h22, h22s⟩ := h22
    subst h22s
    subst h22
    refine tg_iald C 95 (by decide) ((e_95 ad cy) _) (amin (fun u => rb (kst n w (cntN wh wd kp tx) (totN wh wd tx)) pr tc (rc n) (rc n) u + chg pr 0 u) tc) rfl (by omega) (by decide) dX5_leastCut_25 26 rfl ?_
    refine tg_top (y := nI (rb (kst n w (cntN wh wd kp tx) (totN wh wd tx)) pr tc (rc n) (rc n) (amin (fun u => rb (kst n w (cntN wh wd kp tx) (totN wh wd tx)) pr tc (rc n) (rc n) u + chg pr 0 u) tc))) (by have := (hrow _ ham).1; rw [show 5 * 0 + amin (fun u => rb (kst n w (cntN wh wd kp tx) (totN wh wd tx)) pr tc (rc n) (rc n) u + chg pr 0 u) tc = amin (fun u => rb (kst n w (cntN wh wd kp tx) (totN wh wd tx)) pr tc (rc n) (rc n) u + chg pr 0 u) tc by omega] at this; exact this) ?_
    exact hret dX5_leastCut_26 ⟨by unfold lb; first | (rw [if_pos c8]; done) | (rw [if_neg c8]; simp [chg]), h1.2⟩
  · -- on
    replace c8 : (rc n) = 0 := (z_eq (by omega)).mp c8
    refine tg_iconst C (nI 0) dX5_leastCut_11 12 rfl (by decide) ?_
    refine tg_goto C 26 dX5_leastCut_12 (by decide) ?_
    exact hret dX5_leastCut_26 ⟨by unfold lb; first | (rw [if_pos c8]; done) | (rw [if_neg c8]; simp [chg]), h1.2⟩
set_option maxHeartbeats 4000000 in
set_option maxRecDepth 100000 in
theorem c_X5_cutCost (l : Launch) (D : va_G) (cy : Nat → ClassId) (ad : Nat → Nat) (hDis : Dis ad) (σ : sS) {n : Nat} {w : Nat → Nat} {tc mg pr tx nx : Nat} {nm wh wd : Nat → Nat} {kp : Nat → Nat → Nat} (hM : MM σ n w tc mg pr tx nx nm wh wd kp) : Mi l yX5_cutCost wsX5_cutCost 4 93 D cy ad [.ref (ad 89)] σ (fun r τ => (0 < tc ∧ r = nI (lb (kst n w (cntN wh wd kp tx) (totN wh wd tx)) pr tc (rc n) (rc n) 0) ∧ ∀ j, j ≠ 95 → τ j = (su σ 89 0 (nI 0)) j) ∨ ((tc = 0) ∧ τ = su σ 89 0 (nI 1))) := by
  have w0 : Cond.fieldLink RX5 38 "TonguetellModel" "tongueMany" "I" ∈ wsX5_cutCost := by decide +kernel
  have w1 : ∀ w ∈ wsX50, w ∈ wsX5_cutCost := by decide +kernel
  have w2 : Cond.fieldLink RX5 35 "TonguetellModel" "thrown" "I" ∈ wsX5_cutCost := by decide +kernel
  have hn16 := hM.1.2.1
  have htc5 := hM.2.1.2.2.2.1
  have htx := hM.2.2.2.2.1
  have hrc := rc_le hn16
  have hrn := hM.rn_lt
  have hwd := hM.wd_le
  have hmg := hM.2.1.2.2.2.2.1
  have hpr := hM.2.1.2.2.2.2.2
  have hnx := hM.2.2.2.2.2.1
  refine Mi.of (cc := cX5_cutCost) (nL := 1) (own := RX5) hDis (by decide) rfl [(0, .ref (ad 89))] rfl (Nat.le_of_ble_eq_true rfl) rfl ?_
  intro p e s m args below meth c A Q C hret
  refine tg_aload_n C dX5_cutCost_0 1 rfl rfl 0 rfl ?_
  refine tg_aload_n C dX5_cutCost_1 2 rfl rfl 0 rfl ?_
  refine tg_get (T := TX5) (N := 13) (Cn := RX5) C 89 (by decide) (e_89 ad cy _) rfl w1 3 (by decide) w0 rfl rfl dX5_cutCost_2 5 rfl ?_
  refine tg_top (y := nI tc) (hM.2.1.1) ?_
  refine tg_if_ne C 12 dX5_cutCost_5 (by decide) 8 rfl (fun c5 => ?_) (fun c5 => ?_)
  · -- to 12
    replace c5 : ¬ tc = 0 := fun q => c5 ((z_eq (by omega)).mpr q)
    refine tg_iconst C (nI 0) dX5_cutCost_12 13 rfl (by decide) ?_
    refine tg_put (T := TX5) (N := 13) (Cn := RX5) C tyX5 tyX5_ok nmX5 89 (by decide) (e_89 ad cy _) rfl w1 0 (by decide) w2 rfl rfl (by decide +kernel) (Nat.le_of_ble_eq_true rfl) (e_89 ad cy _) dX5_cutCost_13 16 rfl ?_
    refine tg_aload_n C dX5_cutCost_16 17 rfl rfl 0 rfl ?_
    refine tg_get (T := TX5) (N := 13) (Cn := RX5) C 89 (by decide) (e_89 ad cy _) rfl w1 0 (by decide) w2 rfl rfl dX5_cutCost_17 20 rfl ?_
    refine tg_top (y := nI 0) (su_eq _ _ _ _) ?_
    refine tg_if_le C 27 dX5_cutCost_20 (by decide) 23 rfl (fun c20 => ?_) (fun c20 => absurd (by decide) c20)
    refine tg_aload_n C dX5_cutCost_27 28 rfl rfl 0 rfl ?_
    have htc : 0 < tc := by omega
    refine tg_callVi C 89 (by decide) (e_89 ad cy _) rfl (c_X5_leastCut l D cy ad hDis (su σ 89 0 (nI 0)) (hM.th (nI 0)) htc) (cwV 0 C.2.2.2.2.1 gX5_cutCost_X5_leastCut rfl rfl rfl (by decide +kernel) ⟨Nat.le_of_ble_eq_true rfl, Nat.le_of_ble_eq_true rfl⟩) rfl rfl (Nat.le_of_ble_eq_true rfl) ⟨Nat.le_of_ble_eq_true rfl, Nat.le_of_ble_eq_true rfl⟩ dX5_cutCost_28 31 rfl (fun r28 τ28 h28 => ?_)
    exact hret dX5_cutCost_31 (Or.inl ⟨htc, h28.1, h28.2⟩)
  · -- on
    replace c5 : tc = 0 := (z_eq (by omega)).mp c5
    refine tg_iconst C (nI 1) dX5_cutCost_8 9 rfl (by decide) ?_
    refine tg_goto C 13 dX5_cutCost_9 (by decide) ?_
    refine tg_put (T := TX5) (N := 13) (Cn := RX5) C tyX5 tyX5_ok nmX5 89 (by decide) (e_89 ad cy _) rfl w1 0 (by decide) w2 rfl rfl (by decide +kernel) (Nat.le_of_ble_eq_true rfl) (e_89 ad cy _) dX5_cutCost_13 16 rfl ?_
    refine tg_aload_n C dX5_cutCost_16 17 rfl rfl 0 rfl ?_
    refine tg_get (T := TX5) (N := 13) (Cn := RX5) C 89 (by decide) (e_89 ad cy _) rfl w1 0 (by decide) w2 rfl rfl dX5_cutCost_17 20 rfl ?_
    refine tg_top (y := nI 1) (su_eq _ _ _ _) ?_
    refine tg_if_le C 27 dX5_cutCost_20 (by decide) 23 rfl (fun c20 => absurd c20 (by decide)) (fun c20 => ?_)
    refine tg_iconst C (nI 0) dX5_cutCost_23 24 rfl (by decide) ?_
    refine tg_goto C 31 dX5_cutCost_24 (by decide) ?_
    exact hret dX5_cutCost_31 (Or.inr ⟨by omega, rfl⟩)
set_option maxHeartbeats 4000000 in
set_option maxRecDepth 100000 in
theorem c_X5_cutCostByTrying (l : Launch) (D : va_G) (cy : Nat → ClassId) (ad : Nat → Nat) (hDis : Dis ad) (σ : sS) {n : Nat} {w : Nat → Nat} {tc mg pr tx nx : Nat} {nm wh wd : Nat → Nat} {kp : Nat → Nat → Nat} (hM : MM σ n w tc mg pr tx nx nm wh wd kp) : Mi l yX5_cutCostByTrying wsX5_cutCostByTrying 4 93 D cy ad [.ref (ad 89)] σ (fun r τ => (0 < tc ∧ n ≤ 5 ∧ r = nI (lb (kst n w (cntN wh wd kp tx) (totN wh wd tx)) pr tc (rc n) (rc n) 0) ∧ ∀ j, j ≠ 95 → τ j = (su σ 89 0 (nI 0)) j) ∨ ((tc = 0 ∨ 5 < n) ∧ τ = su σ 89 0 (nI 1))) := by
  have w0 : Cond.fieldLink RX5 38 "TonguetellModel" "tongueMany" "I" ∈ wsX5_cutCostByTrying := by decide +kernel
  have w1 : ∀ w ∈ wsX50, w ∈ wsX5_cutCostByTrying := by decide +kernel
  have w2 : Cond.fieldLink RX5 35 "TonguetellModel" "thrown" "I" ∈ wsX5_cutCostByTrying := by decide +kernel
  have w3 : Cond.fieldLink RX5 45 "TonguetellModel" "letters" "I" ∈ wsX5_cutCostByTrying := by decide +kernel
  have hn16 := hM.1.2.1
  have htc5 := hM.2.1.2.2.2.1
  have htx := hM.2.2.2.2.1
  have hrc := rc_le hn16
  have hrn := hM.rn_lt
  have hwd := hM.wd_le
  have hmg := hM.2.1.2.2.2.2.1
  have hpr := hM.2.1.2.2.2.2.2
  have hnx := hM.2.2.2.2.2.1
  refine Mi.of (cc := cX5_cutCostByTrying) (nL := 1) (own := RX5) hDis (by decide) rfl [(0, .ref (ad 89))] rfl (Nat.le_of_ble_eq_true rfl) rfl ?_
  intro p e s m args below meth c A Q C hret
  refine tg_aload_n C dX5_cutCostByTrying_0 1 rfl rfl 0 rfl ?_
  refine tg_aload_n C dX5_cutCostByTrying_1 2 rfl rfl 0 rfl ?_
  refine tg_get (T := TX5) (N := 13) (Cn := RX5) C 89 (by decide) (e_89 ad cy _) rfl w1 3 (by decide) w0 rfl rfl dX5_cutCostByTrying_2 5 rfl ?_
  refine tg_top (y := nI tc) (hM.2.1.1) ?_
  refine tg_if_eq C 16 dX5_cutCostByTrying_5 (by decide) 8 rfl (fun c5 => ?_) (fun c5 => ?_)
  · -- to 16
    replace c5 : tc = 0 := (z_eq (by omega)).mp c5
    refine tg_iconst C (nI 1) dX5_cutCostByTrying_16 17 rfl (by decide) ?_
    refine tg_goto C 21 dX5_cutCostByTrying_17 (by decide) ?_
    refine tg_put (T := TX5) (N := 13) (Cn := RX5) C tyX5 tyX5_ok nmX5 89 (by decide) (e_89 ad cy _) rfl w1 0 (by decide) w2 rfl rfl (by decide +kernel) (Nat.le_of_ble_eq_true rfl) (e_89 ad cy _) dX5_cutCostByTrying_21 24 rfl ?_
    refine tg_aload_n C dX5_cutCostByTrying_24 25 rfl rfl 0 rfl ?_
    refine tg_get (T := TX5) (N := 13) (Cn := RX5) C 89 (by decide) (e_89 ad cy _) rfl w1 0 (by decide) w2 rfl rfl dX5_cutCostByTrying_25 28 rfl ?_
    refine tg_top (y := nI 1) (su_eq _ _ _ _) ?_
    refine tg_if_le C 35 dX5_cutCostByTrying_28 (by decide) 31 rfl (fun c28 => absurd c28 (by decide)) (fun c28 => ?_)
    refine tg_iconst C (nI 0) dX5_cutCostByTrying_31 32 rfl (by decide) ?_
    refine tg_goto C 39 dX5_cutCostByTrying_32 (by decide) ?_
    exact hret dX5_cutCostByTrying_39 (Or.inr ⟨by omega, rfl⟩)
  · -- on
    replace c5 : ¬ tc = 0 := fun q => c5 ((z_eq (by omega)).mpr q)
    refine tg_aload_n C dX5_cutCostByTrying_8 9 rfl rfl 0 rfl ?_
    refine tg_get (T := TX5) (N := 13) (Cn := RX5) C 89 (by decide) (e_89 ad cy _) rfl w1 2 (by decide) w3 rfl rfl dX5_cutCostByTrying_9 12 rfl ?_
    refine tg_top (y := nI n) (hM.1.1) ?_
    refine tg_iconst C (nI 5) dX5_cutCostByTrying_12 13 rfl (by decide) ?_
    refine tg_icmp_le C 20 dX5_cutCostByTrying_13 (by decide) 16 rfl (fun c13 => ?_) (fun c13 => ?_)
    · -- to 20
      replace c13 : n ≤ 5 := (nI_leI (by omega) (by omega)).mp c13
      refine tg_iconst C (nI 0) dX5_cutCostByTrying_20 21 rfl (by decide) ?_
      refine tg_put (T := TX5) (N := 13) (Cn := RX5) C tyX5 tyX5_ok nmX5 89 (by decide) (e_89 ad cy _) rfl w1 0 (by decide) w2 rfl rfl (by decide +kernel) (Nat.le_of_ble_eq_true rfl) (e_89 ad cy _) dX5_cutCostByTrying_21 24 rfl ?_
      refine tg_aload_n C dX5_cutCostByTrying_24 25 rfl rfl 0 rfl ?_
      refine tg_get (T := TX5) (N := 13) (Cn := RX5) C 89 (by decide) (e_89 ad cy _) rfl w1 0 (by decide) w2 rfl rfl dX5_cutCostByTrying_25 28 rfl ?_
      refine tg_top (y := nI 0) (su_eq _ _ _ _) ?_
      refine tg_if_le C 35 dX5_cutCostByTrying_28 (by decide) 31 rfl (fun c28 => ?_) (fun c28 => absurd (by decide) c28)
      refine tg_aload_n C dX5_cutCostByTrying_35 36 rfl rfl 0 rfl ?_
      have htc : 0 < tc := by omega
      refine tg_callVi C 89 (by decide) (e_89 ad cy _) rfl (c_X5_leastCut l D cy ad hDis (su σ 89 0 (nI 0)) (hM.th (nI 0)) htc) (cwV 0 C.2.2.2.2.1 gX5_cutCostByTrying_X5_leastCut rfl rfl rfl (by decide +kernel) ⟨Nat.le_of_ble_eq_true rfl, Nat.le_of_ble_eq_true rfl⟩) rfl rfl (Nat.le_of_ble_eq_true rfl) ⟨Nat.le_of_ble_eq_true rfl, Nat.le_of_ble_eq_true rfl⟩ dX5_cutCostByTrying_36 39 rfl (fun r36 τ36 h36 => ?_)
      exact hret dX5_cutCostByTrying_39 (Or.inl ⟨htc, by omega, h36.1, h36.2⟩)
    · -- on
      replace c13 : ¬ n ≤ 5 := fun q => c13 ((nI_leI (by omega) (by omega)).mpr q)
      refine tg_iconst C (nI 1) dX5_cutCostByTrying_16 17 rfl (by decide) ?_
      refine tg_goto C 21 dX5_cutCostByTrying_17 (by decide) ?_
      refine tg_put (T := TX5) (N := 13) (Cn := RX5) C tyX5 tyX5_ok nmX5 89 (by decide) (e_89 ad cy _) rfl w1 0 (by decide) w2 rfl rfl (by decide +kernel) (Nat.le_of_ble_eq_true rfl) (e_89 ad cy _) dX5_cutCostByTrying_21 24 rfl ?_
      refine tg_aload_n C dX5_cutCostByTrying_24 25 rfl rfl 0 rfl ?_
      refine tg_get (T := TX5) (N := 13) (Cn := RX5) C 89 (by decide) (e_89 ad cy _) rfl w1 0 (by decide) w2 rfl rfl dX5_cutCostByTrying_25 28 rfl ?_
      refine tg_top (y := nI 1) (su_eq _ _ _ _) ?_
      refine tg_if_le C 35 dX5_cutCostByTrying_28 (by decide) 31 rfl (fun c28 => absurd c28 (by decide)) (fun c28 => ?_)
      refine tg_iconst C (nI 0) dX5_cutCostByTrying_31 32 rfl (by decide) ?_
      refine tg_goto C 39 dX5_cutCostByTrying_32 (by decide) ?_
      exact hret dX5_cutCostByTrying_39 (Or.inr ⟨by omega, rfl⟩)
set_option maxHeartbeats 4000000 in
set_option maxRecDepth 100000 in
theorem c_X5_cutTongue (l : Launch) (D : va_G) (cy : Nat → ClassId) (ad : Nat → Nat) (hDis : Dis ad) (σ : sS) {n : Nat} {w : Nat → Nat} {tc mg pr tx nx : Nat} {nm wh wd : Nat → Nat} {kp : Nat → Nat → Nat} (hM : MM σ n w tc mg pr tx nx nm wh wd kp) {x : Int32} : Mi l yX5_cutTongue wsX5_cutTongue 3 73 D cy ad [.ref (ad 89), .int x] σ (fun r τ => (0 < tc ∧ (∃ k, k < rc n ∧ x = nI k ∧ r = nI (tdb (kst n w (cntN wh wd kp tx) (totN wh wd tx)) pr tc (rc n) (k + 1) - 1)) ∧ ∀ j, j ≠ 95 → τ j = (su σ 89 0 (nI 0)) j) ∨ (tc = 0 ∧ τ = su σ 89 0 (nI 1)) ∨ (0 < tc ∧ ¬ inR x (rc n) ∧ τ = su σ 89 0 (nI 2))) := by
  have w0 : Cond.fieldLink RX5 38 "TonguetellModel" "tongueMany" "I" ∈ wsX5_cutTongue := by decide +kernel
  have w1 : ∀ w ∈ wsX50, w ∈ wsX5_cutTongue := by decide +kernel
  have w2 : Cond.fieldLink RX5 35 "TonguetellModel" "thrown" "I" ∈ wsX5_cutTongue := by decide +kernel
  have hn16 := hM.1.2.1
  have htc5 := hM.2.1.2.2.2.1
  have htx := hM.2.2.2.2.1
  have hrc := rc_le hn16
  have hrn := hM.rn_lt
  have hwd := hM.wd_le
  have hmg := hM.2.1.2.2.2.2.1
  have hpr := hM.2.1.2.2.2.2.2
  have hnx := hM.2.2.2.2.2.1
  have hkl : ∀ p t, p < rc n → t < tc → (kst n w (cntN wh wd kp tx) (totN wh wd tx)) p t ≤ 10 := fun _ _ _ _ => costN_le _ _
  refine Mi.of (cc := cX5_cutTongue) (nL := 4) (own := RX5) hDis (by decide) rfl [(0, .ref (ad 89)), (1, .int x)] rfl (Nat.le_of_ble_eq_true rfl) rfl ?_
  intro p e s m args below meth c A Q C hret
  refine tg_aload_n C dX5_cutTongue_0 1 rfl rfl 0 rfl ?_
  refine tg_aload_n C dX5_cutTongue_1 2 rfl rfl 0 rfl ?_
  refine tg_get (T := TX5) (N := 13) (Cn := RX5) C 89 (by decide) (e_89 ad cy _) rfl w1 3 (by decide) w0 rfl rfl dX5_cutTongue_2 5 rfl ?_
  refine tg_top (y := nI tc) (hM.2.1.1) ?_
  refine tg_if_ne C 12 dX5_cutTongue_5 (by decide) 8 rfl (fun c5 => ?_) (fun c5 => ?_)
  · -- to 12
    replace c5 : ¬ tc = 0 := fun q => c5 ((z_eq (by omega)).mpr q)
    refine tg_iload_n C dX5_cutTongue_12 13 rfl rfl 1 rfl ?_
    refine tg_iconst C (nI 0) dX5_cutTongue_13 14 rfl (by decide) ?_
    refine tg_aload_n C dX5_cutTongue_14 15 rfl rfl 0 rfl ?_
    refine tg_callVi C 89 (by decide) (e_89 ad cy _) rfl (c_X5_runMany l D cy ad hDis σ hM) (cwV 0 C.2.2.2.2.1 gX5_cutTongue_X5_runMany rfl rfl rfl (by decide +kernel) ⟨Nat.le_of_ble_eq_true rfl, Nat.le_of_ble_eq_true rfl⟩) rfl rfl (Nat.le_of_ble_eq_true rfl) ⟨Nat.le_of_ble_eq_true rfl, Nat.le_of_ble_eq_true rfl⟩ dX5_cutTongue_15 18 rfl (fun r15 τ15 h15 => ?_)
    obtain ⟨h15, h15s⟩ := h15
    subst h15s
    subst h15
    refine tg_iconst C (nI 1) dX5_cutTongue_18 19 rfl (by decide) ?_
    refine tg_isub C (bv (rc n)) dX5_cutTongue_19 20 rfl (bv_pred (rc n)) ?_
    refine tg_callSi C (c_X5_in l D cy ad hDis σ (x := x) (y := nI 0) (z := bv (rc n))) (cwS 3 C.2.2.2.2.1 gX5_cutTongue_X5_in rfl rfl rfl (by decide +kernel) ⟨Nat.le_of_ble_eq_true rfl, Nat.le_of_ble_eq_true rfl⟩) rfl rfl (Nat.le_of_ble_eq_true rfl) ⟨Nat.le_of_ble_eq_true rfl, Nat.le_of_ble_eq_true rfl⟩ dX5_cutTongue_20 23 rfl (fun r20 τ20 h20 => ?_)
    obtain ⟨h20, h20s⟩ := h20
    subst h20s
    subst h20
    refine tg_if_eq C 30 dX5_cutTongue_23 (by decide) 26 rfl (fun c23 => ?_) (fun c23 => ?_)
    · -- to 30
      replace c23 : ¬ inR x (rc n) := (inb_f (by omega)).mp (bI_0.mp c23)
      refine tg_iconst C (nI 2) dX5_cutTongue_30 31 rfl (by decide) ?_
      refine tg_put (T := TX5) (N := 13) (Cn := RX5) C tyX5 tyX5_ok nmX5 89 (by decide) (e_89 ad cy _) rfl w1 0 (by decide) w2 rfl rfl (by decide +kernel) (Nat.le_of_ble_eq_true rfl) (e_89 ad cy _) dX5_cutTongue_31 34 rfl ?_
      refine tg_aload_n C dX5_cutTongue_34 35 rfl rfl 0 rfl ?_
      refine tg_get (T := TX5) (N := 13) (Cn := RX5) C 89 (by decide) (e_89 ad cy _) rfl w1 0 (by decide) w2 rfl rfl dX5_cutTongue_35 38 rfl ?_
      refine tg_top (y := nI 2) (su_eq _ _ _ _) ?_
      refine tg_if_le C 43 dX5_cutTongue_38 (by decide) 41 rfl (fun c38 => absurd c38 (by decide)) (fun c38 => ?_)
      refine tg_iconst C (nI 0) dX5_cutTongue_41 42 rfl (by decide) ?_
      exact hret dX5_cutTongue_42 (Or.inr (Or.inr ⟨by omega, c23, rfl⟩))
    · -- on
      replace c23 : inR x (rc n) := (inb_t (by omega)).mp (bI_n.mp c23)
      obtain ⟨pl, hpl, hxp⟩ := c23
      subst hxp
      refine tg_iconst C (nI 0) dX5_cutTongue_26 27 rfl (by decide) ?_
      refine tg_goto C 31 dX5_cutTongue_27 (by decide) ?_
      refine tg_put (T := TX5) (N := 13) (Cn := RX5) C tyX5 tyX5_ok nmX5 89 (by decide) (e_89 ad cy _) rfl w1 0 (by decide) w2 rfl rfl (by decide +kernel) (Nat.le_of_ble_eq_true rfl) (e_89 ad cy _) dX5_cutTongue_31 34 rfl ?_
      refine tg_aload_n C dX5_cutTongue_34 35 rfl rfl 0 rfl ?_
      refine tg_get (T := TX5) (N := 13) (Cn := RX5) C 89 (by decide) (e_89 ad cy _) rfl w1 0 (by decide) w2 rfl rfl dX5_cutTongue_35 38 rfl ?_
      refine tg_top (y := nI 0) (su_eq _ _ _ _) ?_
      refine tg_if_le C 43 dX5_cutTongue_38 (by decide) 41 rfl (fun c38 => ?_) (fun c38 => absurd (by decide) c38)
      refine tg_aload_n C dX5_cutTongue_43 44 rfl rfl 0 rfl ?_
      have htc : 0 < tc := by omega
      refine tg_callVv C 89 (by decide) (e_89 ad cy _) rfl (c_X5_lays l D cy ad hDis (su σ 89 0 (nI 0)) (hM.th (nI 0)) htc) (cwV 0 C.2.2.2.2.1 gX5_cutTongue_X5_lays rfl rfl rfl (by decide +kernel) ⟨Nat.le_of_ble_eq_true rfl, Nat.le_of_ble_eq_true rfl⟩) rfl rfl (Nat.le_of_ble_eq_true rfl) ⟨Nat.le_of_ble_eq_true rfl, Nat.le_of_ble_eq_true rfl⟩ dX5_cutTongue_44 47 rfl (fun τ44 h44 => ?_)
      have hM1 : MM τ44 n w tc mg pr tx nx nm wh wd kp := (hM.th (nI 0)).fr (fun k _ => by rw [h44.2 89 (by decide)]) (fun j hj1 hj2 => h44.2 j (by omega))
      refine tg_iconst C (-1) dX5_cutTongue_47 48 rfl (by decide) ?_
      refine tg_istore_n C dX5_cutTongue_48 49 rfl rfl [(2, .int ((-1))), (0, .ref (ad 89)), (1, .int (nI pl))] (by decide) rfl ?_
      refine tg_iconst C (nI 0) dX5_cutTongue_49 50 rfl (by decide) ?_
      refine tg_istore_n C dX5_cutTongue_50 51 rfl rfl [(3, .int (nI 0)), (2, .int ((-1))), (0, .ref (ad 89)), (1, .int (nI pl))] (by decide) rfl ?_
      have L51 : ∀ (n51 : Nat) (k : Nat), (k ≤ pl + 1) → pl + 1 - k < n51 → TT p l e (Rm 3 73) s m args below meth c D cy ad A 4 0 0 Q τ44 51 [(0, .ref (ad 89)), (1, .int (nI pl)), (2, .int (bv (tdb (kst n w (cntN wh wd kp tx) (totN wh wd tx)) pr tc (rc n) k))), (3, .int (nI k))] [] := by
        intro n51
        induction n51 with
        | zero => intro k _ hn51; exact absurd hn51 (Nat.not_lt_zero _)
        | succ n51 ih51 =>
          intro k hk hn51
          refine tg_iload_n C dX5_cutTongue_51 52 rfl rfl 3 rfl ?_
          refine tg_iload_n C dX5_cutTongue_52 53 rfl rfl 1 rfl ?_
          refine tg_icmp_gt C 69 dX5_cutTongue_53 (by decide) 56 rfl (fun c53 => ?_) (fun c53 => ?_)
          · -- to 69
            replace c53 : pl < k := (nI_ltI (by omega) (by omega)).mp c53
            refine tg_iload_n C dX5_cutTongue_69 70 rfl rfl 2 rfl ?_
            exact hret dX5_cutTongue_70 (Or.inl ⟨htc, ⟨pl, hpl, rfl, by rw [show k = pl + 1 by omega]; rfl⟩, h44.2⟩)
          · -- on
            replace c53 : ¬ pl < k := fun q => c53 ((nI_ltI (by omega) (by omega)).mpr q)
            refine tg_aload_n C dX5_cutTongue_56 57 rfl rfl 0 rfl ?_
            refine tg_iload_n C dX5_cutTongue_57 58 rfl rfl 3 rfl ?_
            refine tg_iload_n C dX5_cutTongue_58 59 rfl rfl 2 rfl ?_
            have hrow : ∀ u, u < tc → τ44 95 (5 * k + u) = nI (rb (kst n w (cntN wh wd kp tx) (totN wh wd tx)) pr tc (rc n) (rc n - k) u) ∧ rb (kst n w (cntN wh wd kp tx) (totN wh wd tx)) pr tc (rc n) (rc n - k) u ≤ 100000 := fun u h => ⟨h44.1 k u (Nat.zero_le _) (by omega) h, by have := rb_le hkl hpr htc (rc n - k) u (by omega) h; omega⟩
            have htd := tdb_le (k := (kst n w (cntN wh wd kp tx) (totN wh wd tx))) (pr := pr) (N := rc n) htc k
            refine tg_callVi C 89 (by decide) (e_89 ad cy _) rfl (c_X5_chooses l D cy ad hDis τ44 hM1 htc (p9 := k) (b := tdb (kst n w (cntN wh wd kp tx) (totN wh wd tx)) pr tc (rc n) k) (f9 := rb (kst n w (cntN wh wd kp tx) (totN wh wd tx)) pr tc (rc n) (rc n - k)) (by omega) (by omega) hrow) (cwV 2 C.2.2.2.2.1 gX5_cutTongue_X5_chooses rfl rfl rfl (by decide +kernel) ⟨Nat.le_of_ble_eq_true rfl, Nat.le_of_ble_eq_true rfl⟩) rfl rfl (Nat.le_of_ble_eq_true rfl) ⟨Nat.le_of_ble_eq_true rfl, Nat.le_of_ble_eq_true rfl⟩ dX5_cutTongue_59 62 rfl (fun r59 τ59 h59 => ?_)
            obtain ⟨h59, h59s⟩ := h59
            subst h59s
            subst h59
            refine tg_istore_n C dX5_cutTongue_62 63 rfl rfl [(2, .int (nI (amin (fun u => rb (kst n w (cntN wh wd kp tx) (totN wh wd tx)) pr tc (rc n) (rc n - k) u + chg pr (tdb (kst n w (cntN wh wd kp tx) (totN wh wd tx)) pr tc (rc n) k) u) tc))), (0, .ref (ad 89)), (1, .int (nI pl)), (3, .int (nI k))] (by decide) rfl ?_
            refine tg_iinc C (nI (k + 1)) dX5_cutTongue_63 66 rfl 3 rfl (nI_add k 1) [(3, .int (nI (k + 1))), (2, .int (nI (amin (fun u => rb (kst n w (cntN wh wd kp tx) (totN wh wd tx)) pr tc (rc n) (rc n - k) u + chg pr (tdb (kst n w (cntN wh wd kp tx) (totN wh wd tx)) pr tc (rc n) k) u) tc))), (0, .ref (ad 89)), (1, .int (nI pl))] (by decide) rfl ?_
            refine tg_goto C 51 dX5_cutTongue_66 (by decide) ?_
            refine tg_sub [2, 3, 1, 0] rfl ?_
            exact ih51 (k + 1) (by omega) (by omega)
      refine tg_sub [2, 3, 1, 0] rfl ?_
      exact L51 _ 0 (by omega) (Nat.lt_succ_self _)
  · -- on
    replace c5 : tc = 0 := (z_eq (by omega)).mp c5
    refine tg_iconst C (nI 1) dX5_cutTongue_8 9 rfl (by decide) ?_
    refine tg_goto C 31 dX5_cutTongue_9 (by decide) ?_
    refine tg_put (T := TX5) (N := 13) (Cn := RX5) C tyX5 tyX5_ok nmX5 89 (by decide) (e_89 ad cy _) rfl w1 0 (by decide) w2 rfl rfl (by decide +kernel) (Nat.le_of_ble_eq_true rfl) (e_89 ad cy _) dX5_cutTongue_31 34 rfl ?_
    refine tg_aload_n C dX5_cutTongue_34 35 rfl rfl 0 rfl ?_
    refine tg_get (T := TX5) (N := 13) (Cn := RX5) C 89 (by decide) (e_89 ad cy _) rfl w1 0 (by decide) w2 rfl rfl dX5_cutTongue_35 38 rfl ?_
    refine tg_top (y := nI 1) (su_eq _ _ _ _) ?_
    refine tg_if_le C 43 dX5_cutTongue_38 (by decide) 41 rfl (fun c38 => absurd c38 (by decide)) (fun c38 => ?_)
    refine tg_iconst C (nI 0) dX5_cutTongue_41 42 rfl (by decide) ?_
    exact hret dX5_cutTongue_42 (Or.inr (Or.inl ⟨by omega, rfl⟩))
theorem stc_st1 {k : Nat → Nat → Nat} {pr tc N i : Nat} (h : tdb k pr tc N i = tdb k pr tc N (i + 1)) : (if i = 0 ∨ (fun i => tdb k pr tc N (i + 1) - 1) i ≠ (fun i => tdb k pr tc N (i + 1) - 1) (i - 1) then 1 else 0) = 0 := by
  refine if_neg (fun q => ?_)
  rcases q with q | q
  · subst q
    simp [tdb] at h
  · refine q ?_
    cases i with
    | zero => simp [tdb] at h
    | succ j =>
      show tdb k pr tc N (j + 1 + 1) - 1 = tdb k pr tc N (j + 1) - 1
      rw [h]
theorem stc_st2 {k : Nat → Nat → Nat} {pr tc N i : Nat} (h : ¬ tdb k pr tc N i = tdb k pr tc N (i + 1)) : (if i = 0 ∨ (fun i => tdb k pr tc N (i + 1) - 1) i ≠ (fun i => tdb k pr tc N (i + 1) - 1) (i - 1) then 1 else 0) = 1 := by
  refine if_pos ?_
  cases i with
  | zero => exact Or.inl rfl
  | succ j =>
    refine Or.inr (fun q => h ?_)
    have q : tdb k pr tc N (j + 1 + 1) - 1 = tdb k pr tc N (j + 1) - 1 := q
    have h1 : tdb k pr tc N (j + 1 + 1) = amin (fun u => rb k pr tc N (N - (j + 1)) u + chg pr (tdb k pr tc N (j + 1)) u) tc + 1 := rfl
    have h2 : tdb k pr tc N (j + 1) = amin (fun u => rb k pr tc N (N - j) u + chg pr (tdb k pr tc N j) u) tc + 1 := rfl
    omega
set_option maxHeartbeats 4000000 in
set_option maxRecDepth 100000 in
theorem c_X5_stretches (l : Launch) (D : va_G) (cy : Nat → ClassId) (ad : Nat → Nat) (hDis : Dis ad) (σ : sS) {n : Nat} {w : Nat → Nat} {tc mg pr tx nx : Nat} {nm wh wd : Nat → Nat} {kp : Nat → Nat → Nat} (hM : MM σ n w tc mg pr tx nx nm wh wd kp) : Mi l yX5_stretches wsX5_stretches 3 73 D cy ad [.ref (ad 89)] σ (fun r τ => (0 < tc ∧ r = nI (stc (fun i => tdb (kst n w (cntN wh wd kp tx) (totN wh wd tx)) pr tc (rc n) (i + 1) - 1) (rc n)) ∧ ∀ j, j ≠ 95 → τ j = (su σ 89 0 (nI 0)) j) ∨ (tc = 0 ∧ τ = su σ 89 0 (nI 1))) := by
  have w0 : Cond.fieldLink RX5 38 "TonguetellModel" "tongueMany" "I" ∈ wsX5_stretches := by decide +kernel
  have w1 : ∀ w ∈ wsX50, w ∈ wsX5_stretches := by decide +kernel
  have w2 : Cond.fieldLink RX5 35 "TonguetellModel" "thrown" "I" ∈ wsX5_stretches := by decide +kernel
  have hn16 := hM.1.2.1
  have htc5 := hM.2.1.2.2.2.1
  have htx := hM.2.2.2.2.1
  have hrc := rc_le hn16
  have hrn := hM.rn_lt
  have hwd := hM.wd_le
  have hmg := hM.2.1.2.2.2.2.1
  have hpr := hM.2.1.2.2.2.2.2
  have hnx := hM.2.2.2.2.2.1
  have hkl : ∀ p t, p < rc n → t < tc → (kst n w (cntN wh wd kp tx) (totN wh wd tx)) p t ≤ 10 := fun _ _ _ _ => costN_le _ _
  refine Mi.of (cc := cX5_stretches) (nL := 5) (own := RX5) hDis (by decide) rfl [(0, .ref (ad 89))] rfl (Nat.le_of_ble_eq_true rfl) rfl ?_
  intro p e s m args below meth c A Q C hret
  refine tg_aload_n C dX5_stretches_0 1 rfl rfl 0 rfl ?_
  refine tg_aload_n C dX5_stretches_1 2 rfl rfl 0 rfl ?_
  refine tg_get (T := TX5) (N := 13) (Cn := RX5) C 89 (by decide) (e_89 ad cy _) rfl w1 3 (by decide) w0 rfl rfl dX5_stretches_2 5 rfl ?_
  refine tg_top (y := nI tc) (hM.2.1.1) ?_
  refine tg_if_ne C 12 dX5_stretches_5 (by decide) 8 rfl (fun c5 => ?_) (fun c5 => ?_)
  · -- to 12
    replace c5 : ¬ tc = 0 := fun q => c5 ((z_eq (by omega)).mpr q)
    refine tg_iconst C (nI 0) dX5_stretches_12 13 rfl (by decide) ?_
    refine tg_put (T := TX5) (N := 13) (Cn := RX5) C tyX5 tyX5_ok nmX5 89 (by decide) (e_89 ad cy _) rfl w1 0 (by decide) w2 rfl rfl (by decide +kernel) (Nat.le_of_ble_eq_true rfl) (e_89 ad cy _) dX5_stretches_13 16 rfl ?_
    refine tg_aload_n C dX5_stretches_16 17 rfl rfl 0 rfl ?_
    refine tg_get (T := TX5) (N := 13) (Cn := RX5) C 89 (by decide) (e_89 ad cy _) rfl w1 0 (by decide) w2 rfl rfl dX5_stretches_17 20 rfl ?_
    refine tg_top (y := nI 0) (su_eq _ _ _ _) ?_
    refine tg_if_le C 25 dX5_stretches_20 (by decide) 23 rfl (fun c20 => ?_) (fun c20 => absurd (by decide) c20)
    refine tg_aload_n C dX5_stretches_25 26 rfl rfl 0 rfl ?_
    have htc : 0 < tc := by omega
    refine tg_callVv C 89 (by decide) (e_89 ad cy _) rfl (c_X5_lays l D cy ad hDis (su σ 89 0 (nI 0)) (hM.th (nI 0)) htc) (cwV 0 C.2.2.2.2.1 gX5_stretches_X5_lays rfl rfl rfl (by decide +kernel) ⟨Nat.le_of_ble_eq_true rfl, Nat.le_of_ble_eq_true rfl⟩) rfl rfl (Nat.le_of_ble_eq_true rfl) ⟨Nat.le_of_ble_eq_true rfl, Nat.le_of_ble_eq_true rfl⟩ dX5_stretches_26 29 rfl (fun τ26 h26 => ?_)
    have hM1 : MM τ26 n w tc mg pr tx nx nm wh wd kp := (hM.th (nI 0)).fr (fun k _ => by rw [h26.2 89 (by decide)]) (fun j hj1 hj2 => h26.2 j (by omega))
    refine tg_iconst C (nI 0) dX5_stretches_29 30 rfl (by decide) ?_
    refine tg_istore_n C dX5_stretches_30 31 rfl rfl [(1, .int (nI 0)), (0, .ref (ad 89))] (by decide) rfl ?_
    refine tg_iconst C (-1) dX5_stretches_31 32 rfl (by decide) ?_
    refine tg_istore_n C dX5_stretches_32 33 rfl rfl [(2, .int ((-1))), (1, .int (nI 0)), (0, .ref (ad 89))] (by decide) rfl ?_
    refine tg_iconst C (nI 0) dX5_stretches_33 34 rfl (by decide) ?_
    refine tg_istore_n C dX5_stretches_34 35 rfl rfl [(3, .int (nI 0)), (2, .int ((-1))), (1, .int (nI 0)), (0, .ref (ad 89))] (by decide) rfl ?_
    have L35 : ∀ (n35 : Nat) (k a9 : Nat), (k ≤ rc n ∧ a9 = stc (fun i => tdb (kst n w (cntN wh wd kp tx) (totN wh wd tx)) pr tc (rc n) (i + 1) - 1) k) → rc n - k < n35 → TT p l e (Rm 3 73) s m args below meth c D cy ad A 5 0 0 Q τ26 35 [(0, .ref (ad 89)), (1, .int (nI a9)), (2, .int (bv (tdb (kst n w (cntN wh wd kp tx) (totN wh wd tx)) pr tc (rc n) k))), (3, .int (nI k))] [] := by
      intro n35
      induction n35 with
      | zero => intro k a9 _ hn35; exact absurd hn35 (Nat.not_lt_zero _)
      | succ n35 ih35 =>
        intro k a9 ⟨hk, ha⟩ hn35
        refine tg_iload_n C dX5_stretches_35 36 rfl rfl 3 rfl ?_
        refine tg_aload_n C dX5_stretches_36 37 rfl rfl 0 rfl ?_
        refine tg_callVi C 89 (by decide) (e_89 ad cy _) rfl (c_X5_runMany l D cy ad hDis τ26 hM1) (cwV 0 C.2.2.2.2.1 gX5_stretches_X5_runMany rfl rfl rfl (by decide +kernel) ⟨Nat.le_of_ble_eq_true rfl, Nat.le_of_ble_eq_true rfl⟩) rfl rfl (Nat.le_of_ble_eq_true rfl) ⟨Nat.le_of_ble_eq_true rfl, Nat.le_of_ble_eq_true rfl⟩ dX5_stretches_37 40 rfl (fun r37 τ37 h37 => ?_)
        obtain ⟨h37, h37s⟩ := h37
        subst h37s
        subst h37
        refine tg_icmp_ge C 74 dX5_stretches_40 (by decide) 43 rfl (fun c40 => ?_) (fun c40 => ?_)
        · -- to 74
          replace c40 : (rc n) ≤ k := (nI_leI (by omega) (by omega)).mp c40
          refine tg_iload_n C dX5_stretches_74 75 rfl rfl 1 rfl ?_
          exact hret dX5_stretches_75 (Or.inl ⟨htc, by rw [ha, show k = rc n by omega], h26.2⟩)
        · -- on
          replace c40 : ¬ (rc n) ≤ k := fun q => c40 ((nI_leI (by omega) (by omega)).mpr q)
          refine tg_aload_n C dX5_stretches_43 44 rfl rfl 0 rfl ?_
          refine tg_iload_n C dX5_stretches_44 45 rfl rfl 3 rfl ?_
          refine tg_iload_n C dX5_stretches_45 46 rfl rfl 2 rfl ?_
          have hrow : ∀ u, u < tc → τ26 95 (5 * k + u) = nI (rb (kst n w (cntN wh wd kp tx) (totN wh wd tx)) pr tc (rc n) (rc n - k) u) ∧ rb (kst n w (cntN wh wd kp tx) (totN wh wd tx)) pr tc (rc n) (rc n - k) u ≤ 100000 := fun u h => ⟨h26.1 k u (Nat.zero_le _) (by omega) h, by have := rb_le hkl hpr htc (rc n - k) u (by omega) h; omega⟩
          have htd := tdb_le (k := (kst n w (cntN wh wd kp tx) (totN wh wd tx))) (pr := pr) (N := rc n) htc k
          have ham := amin_lt (fun u => rb (kst n w (cntN wh wd kp tx) (totN wh wd tx)) pr tc (rc n) (rc n - k) u + chg pr (tdb (kst n w (cntN wh wd kp tx) (totN wh wd tx)) pr tc (rc n) k) u) tc htc
          refine tg_callVi C 89 (by decide) (e_89 ad cy _) rfl (c_X5_chooses l D cy ad hDis τ26 hM1 htc (p9 := k) (b := tdb (kst n w (cntN wh wd kp tx) (totN wh wd tx)) pr tc (rc n) k) (f9 := rb (kst n w (cntN wh wd kp tx) (totN wh wd tx)) pr tc (rc n) (rc n - k)) (by omega) (by omega) hrow) (cwV 2 C.2.2.2.2.1 gX5_stretches_X5_chooses rfl rfl rfl (by decide +kernel) ⟨Nat.le_of_ble_eq_true rfl, Nat.le_of_ble_eq_true rfl⟩) rfl rfl (Nat.le_of_ble_eq_true rfl) ⟨Nat.le_of_ble_eq_true rfl, Nat.le_of_ble_eq_true rfl⟩ dX5_stretches_46 49 rfl (fun r46 τ46 h46 => ?_)
          obtain ⟨h46, h46s⟩ := h46
          subst h46s
          subst h46
          refine tg_istore C dX5_stretches_49 51 rfl [(4, .int (nI (amin (fun u => rb (kst n w (cntN wh wd kp tx) (totN wh wd tx)) pr tc (rc n) (rc n - k) u + chg pr (tdb (kst n w (cntN wh wd kp tx) (totN wh wd tx)) pr tc (rc n) k) u) tc))), (0, .ref (ad 89)), (1, .int (nI a9)), (2, .int (bv (tdb (kst n w (cntN wh wd kp tx) (totN wh wd tx)) pr tc (rc n) k))), (3, .int (nI k))] (by decide) rfl ?_
          refine tg_iload_n C dX5_stretches_51 52 rfl rfl 2 rfl ?_
          refine tg_iload C dX5_stretches_52 54 rfl 0 rfl ?_
          refine tg_iload_n C dX5_stretches_54 55 rfl rfl 3 rfl ?_
          refine tg_icmp_ne C 62 dX5_stretches_55 (by decide) 58 rfl (fun c55 => ?_) (fun c55 => ?_)
          · -- to 62
            replace c55 : ¬ tdb (kst n w (cntN wh wd kp tx) (totN wh wd tx)) pr tc (rc n) k = tdb (kst n w (cntN wh wd kp tx) (totN wh wd tx)) pr tc (rc n) (k + 1) := fun q => c55 (((bv_t (by omega) (by omega)).mpr q).symm)
            refine tg_iconst C (nI 1) dX5_stretches_62 63 rfl (by decide) ?_
            refine tg_iadd C (nI (a9 + 1)) dX5_stretches_63 64 rfl (nI_add a9 1) ?_
            refine tg_istore_n C dX5_stretches_64 65 rfl rfl [(1, .int (nI (a9 + 1))), (4, .int (nI (amin (fun u => rb (kst n w (cntN wh wd kp tx) (totN wh wd tx)) pr tc (rc n) (rc n - k) u + chg pr (tdb (kst n w (cntN wh wd kp tx) (totN wh wd tx)) pr tc (rc n) k) u) tc))), (0, .ref (ad 89)), (2, .int (bv (tdb (kst n w (cntN wh wd kp tx) (totN wh wd tx)) pr tc (rc n) k))), (3, .int (nI k))] (by decide) rfl ?_
            refine tg_iload C dX5_stretches_65 67 rfl 1 rfl ?_
            refine tg_istore_n C dX5_stretches_67 68 rfl rfl [(2, .int (nI (amin (fun u => rb (kst n w (cntN wh wd kp tx) (totN wh wd tx)) pr tc (rc n) (rc n - k) u + chg pr (tdb (kst n w (cntN wh wd kp tx) (totN wh wd tx)) pr tc (rc n) k) u) tc))), (1, .int (nI (a9 + 1))), (4, .int (nI (amin (fun u => rb (kst n w (cntN wh wd kp tx) (totN wh wd tx)) pr tc (rc n) (rc n - k) u + chg pr (tdb (kst n w (cntN wh wd kp tx) (totN wh wd tx)) pr tc (rc n) k) u) tc))), (0, .ref (ad 89)), (3, .int (nI k))] (by decide) rfl ?_
            refine tg_iinc C (nI (k + 1)) dX5_stretches_68 71 rfl 4 rfl (nI_add k 1) [(3, .int (nI (k + 1))), (2, .int (nI (amin (fun u => rb (kst n w (cntN wh wd kp tx) (totN wh wd tx)) pr tc (rc n) (rc n - k) u + chg pr (tdb (kst n w (cntN wh wd kp tx) (totN wh wd tx)) pr tc (rc n) k) u) tc))), (1, .int (nI (a9 + 1))), (4, .int (nI (amin (fun u => rb (kst n w (cntN wh wd kp tx) (totN wh wd tx)) pr tc (rc n) (rc n - k) u + chg pr (tdb (kst n w (cntN wh wd kp tx) (totN wh wd tx)) pr tc (rc n) k) u) tc))), (0, .ref (ad 89))] (by decide) rfl ?_
            refine tg_goto C 35 dX5_stretches_71 (by decide) ?_
            refine tg_sub [4, 2, 1, 0] rfl ?_
            exact ih35 (k + 1) (a9 + 1) ⟨by omega, by show _ = stc (fun i => tdb (kst n w (cntN wh wd kp tx) (totN wh wd tx)) pr tc (rc n) (i + 1) - 1) k + (if k = 0 ∨ (fun i => tdb (kst n w (cntN wh wd kp tx) (totN wh wd tx)) pr tc (rc n) (i + 1) - 1) k ≠ (fun i => tdb (kst n w (cntN wh wd kp tx) (totN wh wd tx)) pr tc (rc n) (i + 1) - 1) (k - 1) then 1 else 0); first | (rw [stc_st1 c55, ← ha]; done) | (rw [stc_st2 c55, ← ha])⟩ (by omega)
          · -- on
            replace c55 : tdb (kst n w (cntN wh wd kp tx) (totN wh wd tx)) pr tc (rc n) k = tdb (kst n w (cntN wh wd kp tx) (totN wh wd tx)) pr tc (rc n) (k + 1) := (bv_t (by omega) (by omega)).mp c55.symm
            refine tg_iconst C (nI 0) dX5_stretches_58 59 rfl (by decide) ?_
            refine tg_goto C 63 dX5_stretches_59 (by decide) ?_
            refine tg_iadd C (nI (a9 + 0)) dX5_stretches_63 64 rfl (nI_add a9 0) ?_
            refine tg_istore_n C dX5_stretches_64 65 rfl rfl [(1, .int (nI (a9 + 0))), (4, .int (nI (amin (fun u => rb (kst n w (cntN wh wd kp tx) (totN wh wd tx)) pr tc (rc n) (rc n - k) u + chg pr (tdb (kst n w (cntN wh wd kp tx) (totN wh wd tx)) pr tc (rc n) k) u) tc))), (0, .ref (ad 89)), (2, .int (bv (tdb (kst n w (cntN wh wd kp tx) (totN wh wd tx)) pr tc (rc n) k))), (3, .int (nI k))] (by decide) rfl ?_
            refine tg_iload C dX5_stretches_65 67 rfl 1 rfl ?_
            refine tg_istore_n C dX5_stretches_67 68 rfl rfl [(2, .int (nI (amin (fun u => rb (kst n w (cntN wh wd kp tx) (totN wh wd tx)) pr tc (rc n) (rc n - k) u + chg pr (tdb (kst n w (cntN wh wd kp tx) (totN wh wd tx)) pr tc (rc n) k) u) tc))), (1, .int (nI (a9 + 0))), (4, .int (nI (amin (fun u => rb (kst n w (cntN wh wd kp tx) (totN wh wd tx)) pr tc (rc n) (rc n - k) u + chg pr (tdb (kst n w (cntN wh wd kp tx) (totN wh wd tx)) pr tc (rc n) k) u) tc))), (0, .ref (ad 89)), (3, .int (nI k))] (by decide) rfl ?_
            refine tg_iinc C (nI (k + 1)) dX5_stretches_68 71 rfl 4 rfl (nI_add k 1) [(3, .int (nI (k + 1))), (2, .int (nI (amin (fun u => rb (kst n w (cntN wh wd kp tx) (totN wh wd tx)) pr tc (rc n) (rc n - k) u + chg pr (tdb (kst n w (cntN wh wd kp tx) (totN wh wd tx)) pr tc (rc n) k) u) tc))), (1, .int (nI (a9 + 0))), (4, .int (nI (amin (fun u => rb (kst n w (cntN wh wd kp tx) (totN wh wd tx)) pr tc (rc n) (rc n - k) u + chg pr (tdb (kst n w (cntN wh wd kp tx) (totN wh wd tx)) pr tc (rc n) k) u) tc))), (0, .ref (ad 89))] (by decide) rfl ?_
            refine tg_goto C 35 dX5_stretches_71 (by decide) ?_
            refine tg_sub [4, 2, 1, 0] rfl ?_
            exact ih35 (k + 1) (a9 + 0) ⟨by omega, by show _ = stc (fun i => tdb (kst n w (cntN wh wd kp tx) (totN wh wd tx)) pr tc (rc n) (i + 1) - 1) k + (if k = 0 ∨ (fun i => tdb (kst n w (cntN wh wd kp tx) (totN wh wd tx)) pr tc (rc n) (i + 1) - 1) k ≠ (fun i => tdb (kst n w (cntN wh wd kp tx) (totN wh wd tx)) pr tc (rc n) (i + 1) - 1) (k - 1) then 1 else 0); first | (rw [stc_st1 c55, ← ha]; done) | (rw [stc_st2 c55, ← ha])⟩ (by omega)
    refine tg_sub [3, 2, 1, 0] rfl ?_
    exact L35 _ 0 0 ⟨by omega, rfl⟩ (Nat.lt_succ_self _)
  · -- on
    replace c5 : tc = 0 := (z_eq (by omega)).mp c5
    refine tg_iconst C (nI 1) dX5_stretches_8 9 rfl (by decide) ?_
    refine tg_goto C 13 dX5_stretches_9 (by decide) ?_
    refine tg_put (T := TX5) (N := 13) (Cn := RX5) C tyX5 tyX5_ok nmX5 89 (by decide) (e_89 ad cy _) rfl w1 0 (by decide) w2 rfl rfl (by decide +kernel) (Nat.le_of_ble_eq_true rfl) (e_89 ad cy _) dX5_stretches_13 16 rfl ?_
    refine tg_aload_n C dX5_stretches_16 17 rfl rfl 0 rfl ?_
    refine tg_get (T := TX5) (N := 13) (Cn := RX5) C 89 (by decide) (e_89 ad cy _) rfl w1 0 (by decide) w2 rfl rfl dX5_stretches_17 20 rfl ?_
    refine tg_top (y := nI 1) (su_eq _ _ _ _) ?_
    refine tg_if_le C 25 dX5_stretches_20 (by decide) 23 rfl (fun c20 => absurd c20 (by decide)) (fun c20 => ?_)
    refine tg_iconst C (nI 0) dX5_stretches_23 24 rfl (by decide) ?_
    exact hret dX5_stretches_24 (Or.inr ⟨by omega, rfl⟩)
set_option maxHeartbeats 4000000 in
set_option maxRecDepth 100000 in
theorem c_X5_isStrange (l : Launch) (D : va_G) (cy : Nat → ClassId) (ad : Nat → Nat) (hDis : Dis ad) (σ : sS) {n : Nat} {w : Nat → Nat} {tc mg pr tx nx : Nat} {nm wh wd : Nat → Nat} {kp : Nat → Nat → Nat} (hM : MM σ n w tc mg pr tx nx nm wh wd kp) {k least : Nat} (hk : k ≤ n) (hl9 : least ≤ 1000) : Mi l yX5_isStrange wsX5_isStrange 2 50 D cy ad [.ref (ad 89), .int (nI k), .int (nI least)] σ (fun r τ => r = bI (fitk n w (cntN wh wd kp tx) (totN wh wd tx) tc least k) ∧ σ = τ) := by
  have w0 : Cond.fieldLink RX5 38 "TonguetellModel" "tongueMany" "I" ∈ wsX5_isStrange := by decide +kernel
  have w1 : ∀ w ∈ wsX50, w ∈ wsX5_isStrange := by decide +kernel
  have hn16 := hM.1.2.1
  have htc5 := hM.2.1.2.2.2.1
  have htx := hM.2.2.2.2.1
  have hrc := rc_le hn16
  have hrn := hM.rn_lt
  have hwd := hM.wd_le
  have hmg := hM.2.1.2.2.2.2.1
  have hpr := hM.2.1.2.2.2.2.2
  have hnx := hM.2.2.2.2.2.1
  refine Mz.of (cc := cX5_isStrange) (nL := 5) (own := RX5) hDis (by decide) rfl [(0, .ref (ad 89)), (1, .int (nI k)), (2, .int (nI least))] rfl (Nat.le_of_ble_eq_true rfl) rfl ?_
  intro p e s m args below meth c A Q C hret
  refine tg_iconst C (nI 1) dX5_isStrange_0 1 rfl (by decide) ?_
  refine tg_istore_n C dX5_isStrange_1 2 rfl rfl [(3, .int (nI 1)), (0, .ref (ad 89)), (1, .int (nI k)), (2, .int (nI least))] (by decide) rfl ?_
  refine tg_iconst C (nI 0) dX5_isStrange_2 3 rfl (by decide) ?_
  refine tg_istore C dX5_isStrange_3 5 rfl [(4, .int (nI 0)), (3, .int (nI 1)), (0, .ref (ad 89)), (1, .int (nI k)), (2, .int (nI least))] (by decide) rfl ?_
  have L5 : ∀ (n5 : Nat) (t : Nat) (s9 : Bool), (t ≤ tc ∧ s9 = fitb (fun u => costN (cntN wh wd kp tx u (rn n w k)) (totN wh wd tx u)) least t) → tc - t < n5 → TT p l e (Rm 2 50) s m args below meth c D cy ad A 5 0 0 Q σ 5 [(0, .ref (ad 89)), (1, .int (nI k)), (2, .int (nI least)), (3, .int (bI s9)), (4, .int (nI t))] [] := by
    intro n5
    induction n5 with
    | zero => intro t s9 _ hn5; exact absurd hn5 (Nat.not_lt_zero _)
    | succ n5 ih5 =>
      intro t s9 ⟨ht, hs⟩ hn5
      refine tg_iload C dX5_isStrange_5 7 rfl 4 rfl ?_
      refine tg_aload_n C dX5_isStrange_7 8 rfl rfl 0 rfl ?_
      refine tg_get (T := TX5) (N := 13) (Cn := RX5) C 89 (by decide) (e_89 ad cy _) rfl w1 3 (by decide) w0 rfl rfl dX5_isStrange_8 11 rfl ?_
      refine tg_top (y := nI tc) (hM.2.1.1) ?_
      refine tg_icmp_ge C 45 dX5_isStrange_11 (by decide) 14 rfl (fun c11 => ?_) (fun c11 => ?_)
      · -- to 45
        replace c11 : tc ≤ t := (nI_leI (by omega) (by omega)).mp c11
        refine tg_iload_n C dX5_isStrange_45 46 rfl rfl 3 rfl ?_
        exact hret dX5_isStrange_46 bI_z ⟨by rw [hs, show t = tc by omega]; rfl, rfl⟩
      · -- on
        replace c11 : ¬ tc ≤ t := fun q => c11 ((nI_leI (by omega) (by omega)).mpr q)
        refine tg_iload_n C dX5_isStrange_14 15 rfl rfl 3 rfl ?_
        refine tg_if_eq C 37 dX5_isStrange_15 (by decide) 18 rfl (fun c15 => ?_) (fun c15 => ?_)
        · -- to 37
          replace c15 := bI_0.mp c15
          refine tg_iconst C (nI 0) dX5_isStrange_37 38 rfl (by decide) ?_
          refine tg_istore_n C dX5_isStrange_38 39 rfl rfl [(3, .int (nI 0)), (0, .ref (ad 89)), (1, .int (nI k)), (2, .int (nI least)), (4, .int (nI t))] (by decide) rfl ?_
          refine tg_iinc C (nI (t + 1)) dX5_isStrange_39 42 rfl 4 rfl (nI_add t 1) [(4, .int (nI (t + 1))), (3, .int (nI 0)), (0, .ref (ad 89)), (1, .int (nI k)), (2, .int (nI least))] (by decide) rfl ?_
          refine tg_goto C 5 dX5_isStrange_42 (by decide) ?_
          refine tg_sub [2, 3, 4, 1, 0] rfl ?_
          exact ih5 (t + 1) false ⟨by omega, by rw [fitb, ← hs]; first | (rw [c15]; rfl) | (rw [c15, Bool.true_and]; first | (rw [decide_eq_true (by show least ≤ costN _ _; omega)]; done) | (rw [decide_eq_false (by show ¬ least ≤ costN _ _; omega)]; done))⟩ (by omega)
        · -- on
          replace c15 := bI_n.mp c15
          refine tg_aload_n C dX5_isStrange_18 19 rfl rfl 0 rfl ?_
          refine tg_iload C dX5_isStrange_19 21 rfl 4 rfl ?_
          refine tg_aload_n C dX5_isStrange_21 22 rfl rfl 0 rfl ?_
          refine tg_iload_n C dX5_isStrange_22 23 rfl rfl 1 rfl ?_
          refine tg_callVi C 89 (by decide) (e_89 ad cy _) rfl (c_X5_run l D cy ad hDis σ hM (k := k) hk) (cwV 1 C.2.2.2.2.1 gX5_isStrange_X5_run rfl rfl rfl (by decide +kernel) ⟨Nat.le_of_ble_eq_true rfl, Nat.le_of_ble_eq_true rfl⟩) rfl rfl (Nat.le_of_ble_eq_true rfl) ⟨Nat.le_of_ble_eq_true rfl, Nat.le_of_ble_eq_true rfl⟩ dX5_isStrange_23 26 rfl (fun r23 τ23 h23 => ?_)
          obtain ⟨h23, h23s⟩ := h23
          subst h23s
          subst h23
          have hcl : costN (cntN wh wd kp tx t (rn n w k)) (totN wh wd tx t) ≤ 10 := costN_le _ _
          refine tg_callVi C 89 (by decide) (e_89 ad cy _) rfl (c_X5_costOf l D cy ad hDis σ hM (t := t) (r9 := rn n w k) (by omega) (by have := hrn k; omega)) (cwV 2 C.2.2.2.2.1 gX5_isStrange_X5_costOf rfl rfl rfl (by decide +kernel) ⟨Nat.le_of_ble_eq_true rfl, Nat.le_of_ble_eq_true rfl⟩) rfl rfl (Nat.le_of_ble_eq_true rfl) ⟨Nat.le_of_ble_eq_true rfl, Nat.le_of_ble_eq_true rfl⟩ dX5_isStrange_26 29 rfl (fun r26 τ26 h26 => ?_)
          obtain ⟨h26, h26s⟩ := h26
          subst h26s
          subst h26
          refine tg_iload_n C dX5_isStrange_29 30 rfl rfl 2 rfl ?_
          refine tg_icmp_lt C 37 dX5_isStrange_30 (by decide) 33 rfl (fun c30 => ?_) (fun c30 => ?_)
          · -- to 37
            replace c30 : (costN (cntN wh wd kp tx t (rn n w k)) (totN wh wd tx t)) < least := (nI_ltI (by omega) (by omega)).mp c30
            refine tg_iconst C (nI 0) dX5_isStrange_37 38 rfl (by decide) ?_
            refine tg_istore_n C dX5_isStrange_38 39 rfl rfl [(3, .int (nI 0)), (0, .ref (ad 89)), (1, .int (nI k)), (2, .int (nI least)), (4, .int (nI t))] (by decide) rfl ?_
            refine tg_iinc C (nI (t + 1)) dX5_isStrange_39 42 rfl 4 rfl (nI_add t 1) [(4, .int (nI (t + 1))), (3, .int (nI 0)), (0, .ref (ad 89)), (1, .int (nI k)), (2, .int (nI least))] (by decide) rfl ?_
            refine tg_goto C 5 dX5_isStrange_42 (by decide) ?_
            refine tg_sub [2, 3, 4, 1, 0] rfl ?_
            exact ih5 (t + 1) false ⟨by omega, by rw [fitb, ← hs]; first | (rw [c15]; rfl) | (rw [c15, Bool.true_and]; first | (rw [decide_eq_true (by show least ≤ costN _ _; omega)]; done) | (rw [decide_eq_false (by show ¬ least ≤ costN _ _; omega)]; done))⟩ (by omega)
          · -- on
            replace c30 : ¬ (costN (cntN wh wd kp tx t (rn n w k)) (totN wh wd tx t)) < least := fun q => c30 ((nI_ltI (by omega) (by omega)).mpr q)
            refine tg_iconst C (nI 1) dX5_isStrange_33 34 rfl (by decide) ?_
            refine tg_goto C 38 dX5_isStrange_34 (by decide) ?_
            refine tg_istore_n C dX5_isStrange_38 39 rfl rfl [(3, .int (nI 1)), (0, .ref (ad 89)), (1, .int (nI k)), (2, .int (nI least)), (4, .int (nI t))] (by decide) rfl ?_
            refine tg_iinc C (nI (t + 1)) dX5_isStrange_39 42 rfl 4 rfl (nI_add t 1) [(4, .int (nI (t + 1))), (3, .int (nI 1)), (0, .ref (ad 89)), (1, .int (nI k)), (2, .int (nI least))] (by decide) rfl ?_
            refine tg_goto C 5 dX5_isStrange_42 (by decide) ?_
            refine tg_sub [2, 3, 4, 1, 0] rfl ?_
            exact ih5 (t + 1) true ⟨by omega, by rw [fitb, ← hs]; first | (rw [c15]; rfl) | (rw [c15, Bool.true_and]; first | (rw [decide_eq_true (by show least ≤ costN _ _; omega)]; done) | (rw [decide_eq_false (by show ¬ least ≤ costN _ _; omega)]; done))⟩ (by omega)
  refine tg_sub [2, 3, 4, 1, 0] rfl ?_
  exact L5 _ 0 true ⟨by omega, rfl⟩ (Nat.lt_succ_self _)
