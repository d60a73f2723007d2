/-! ===== the reference: teaching, learning, withdrawing ===== -/
set_option maxHeartbeats 4000000 in
set_option maxRecDepth 100000 in
theorem c_X5_keeps (l : Launch) (D : va_G) (cy : Nat → ClassId) (ad : Nat → Nat) (hDis : Dis ad) (σ : sS) {n : Nat} {w : Nat → Nat} {tc mg pr tx nx : Nat} {nm wh wd : Nat → Nat} {kp : Nat → Nat → Nat} (hM : MM σ n w tc mg pr tx nx nm wh wd kp) {t f9 ln : Nat} (ht : t < 5) (htx3 : tx < 30) (hfl : f9 + ln ≤ rc n) (hnx1 : nx < 10000) : Mi l yX5_keeps wsX5_keeps 1 23 D cy ad [.ref (ad 89), .int (nI t), .int (nI f9), .int (nI ln)] σ (fun r τ => r = nI nx ∧ KeptM σ τ tx nx t ln f9 n w) := by
  have w0 : Cond.fieldLink RX5 20 "TonguetellModel" "numbers" "[I" ∈ wsX5_keeps := by decide +kernel
  have w1 : ∀ w ∈ wsX50, w ∈ wsX5_keeps := by decide +kernel
  have w2 : Cond.fieldLink RX5 59 "TonguetellModel" "textMany" "I" ∈ wsX5_keeps := by decide +kernel
  have w3 : Cond.fieldLink RX5 62 "TonguetellModel" "taught" "I" ∈ wsX5_keeps := by decide +kernel
  have w4 : Cond.fieldLink RX5 23 "TonguetellModel" "whose" "[I" ∈ wsX5_keeps := by decide +kernel
  have w5 : Cond.fieldLink RX5 26 "TonguetellModel" "wide" "[I" ∈ wsX5_keeps := by decide +kernel
  have w6 : Cond.fieldLink RX5 29 "TonguetellModel" "kept" "[I" ∈ wsX5_keeps := by decide +kernel
  have hn16 := hM.1.2.1
  have htc5 := hM.2.1.2.2.2.1
  have htx := hM.2.2.2.2.1
  have hrc := rc_le hn16
  have hrn := hM.rn_lt
  have hwd := hM.wd_le
  have hmg := hM.2.1.2.2.2.2.1
  have hpr := hM.2.1.2.2.2.2.2
  have hnx := hM.2.2.2.2.2.1
  refine Mi.of (cc := cX5_keeps) (nL := 5) (own := RX5) hDis (by decide) rfl [(0, .ref (ad 89)), (1, .int (nI t)), (2, .int (nI f9)), (3, .int (nI ln))] rfl (Nat.le_of_ble_eq_true rfl) rfl ?_
  intro p e s m args below meth c A Q C hret
  refine tg_aload_n C dX5_keeps_0 1 rfl rfl 0 rfl ?_
  refine tg_get (T := TX5) (N := 13) (Cn := RX5) C 89 (by decide) (e_89 ad cy _) rfl w1 8 (by decide) w0 rfl rfl dX5_keeps_1 4 rfl ?_
  refine tg_aload_n C dX5_keeps_4 5 rfl rfl 0 rfl ?_
  refine tg_get (T := TX5) (N := 13) (Cn := RX5) C 89 (by decide) (e_89 ad cy _) rfl w1 6 (by decide) w2 rfl rfl dX5_keeps_5 8 rfl ?_
  refine tg_top (y := nI tx) (hM.2.2.1) ?_
  refine tg_aload_n C dX5_keeps_8 9 rfl rfl 0 rfl ?_
  refine tg_get (T := TX5) (N := 13) (Cn := RX5) C 89 (by decide) (e_89 ad cy _) rfl w1 7 (by decide) w3 rfl rfl dX5_keeps_9 12 rfl ?_
  refine tg_top (y := nI nx) (hM.2.2.2.1) ?_
  refine tg_iast C 91 (by decide) (e_91 ad cy) tx rfl (by omega) (by decide) dX5_keeps_12 13 rfl ?_
  refine tg_aload_n C dX5_keeps_13 14 rfl rfl 0 rfl ?_
  refine tg_get (T := TX5) (N := 13) (Cn := RX5) C 89 (by decide) (e_89 ad cy _) rfl w1 9 (by decide) w4 rfl rfl dX5_keeps_14 17 rfl ?_
  refine tg_aload_n C dX5_keeps_17 18 rfl rfl 0 rfl ?_
  refine tg_get (T := TX5) (N := 13) (Cn := RX5) C 89 (by decide) (e_89 ad cy _) rfl w1 6 (by decide) w2 rfl rfl dX5_keeps_18 21 rfl ?_
  refine tg_top (y := nI tx) (by rw [su_ni _ _ _ (by decide)]; exact hM.2.2.1) ?_
  refine tg_iload_n C dX5_keeps_21 22 rfl rfl 1 rfl ?_
  refine tg_iast C 92 (by decide) (e_92 ad cy) tx rfl (by omega) (by decide) dX5_keeps_22 23 rfl ?_
  refine tg_aload_n C dX5_keeps_23 24 rfl rfl 0 rfl ?_
  refine tg_get (T := TX5) (N := 13) (Cn := RX5) C 89 (by decide) (e_89 ad cy _) rfl w1 10 (by decide) w5 rfl rfl dX5_keeps_24 27 rfl ?_
  refine tg_aload_n C dX5_keeps_27 28 rfl rfl 0 rfl ?_
  refine tg_get (T := TX5) (N := 13) (Cn := RX5) C 89 (by decide) (e_89 ad cy _) rfl w1 6 (by decide) w2 rfl rfl dX5_keeps_28 31 rfl ?_
  refine tg_top (y := nI tx) (by rw [su_ni _ _ _ (by decide)]; rw [su_ni _ _ _ (by decide)]; exact hM.2.2.1) ?_
  refine tg_iload_n C dX5_keeps_31 32 rfl rfl 3 rfl ?_
  refine tg_iast C 93 (by decide) (e_93 ad cy) tx rfl (by omega) (by decide) dX5_keeps_32 33 rfl ?_
  obtain ⟨σ3, hσ3⟩ : ∃ z : sS, z = su (su (su σ 91 tx (nI nx)) 92 tx (nI t)) 93 tx (nI ln) := ⟨_, rfl⟩
  rw [← hσ3]
  have h391 : σ3 91 = upd (σ 91) tx (nI nx) := by rw [hσ3, su_ni _ _ _ (by decide), su_ni _ _ _ (by decide)]; exact va_up_self _ _ _
  have h392 : σ3 92 = upd (σ 92) tx (nI t) := by rw [hσ3, su_ni _ _ _ (by decide)]; exact (va_up_self _ _ _).trans (by rw [su_ni _ _ _ (by decide)])
  have h393 : σ3 93 = upd (σ 93) tx (nI ln) := by rw [hσ3]; exact (va_up_self _ _ _).trans (by rw [su_ni _ _ _ (by decide), su_ni _ _ _ (by decide)])
  have h3o : ∀ j, j ≠ 91 → j ≠ 92 → j ≠ 93 → σ3 j = σ j := fun j h1 h2 h3 => by rw [hσ3, su_ni _ _ _ h3, su_ni _ _ _ h2, su_ni _ _ _ h1]
  have h394 : σ3 94 = σ 94 := h3o 94 (by decide) (by decide) (by decide)
  have hM3 : MM σ3 n w tc mg pr tx nx nm wh wd kp := hM.fr2 (fun k _ => by rw [h3o 89 (by decide) (by decide) (by decide)]) (h3o 90 (by decide) (by decide) (by decide)) (fun k hk => by rw [h391]; exact if_neg (by omega)) (fun k hk => by rw [h392]; exact if_neg (by omega)) (fun k hk => by rw [h393]; exact if_neg (by omega)) (fun i _ => by rw [h394])
  refine tg_iconst C (nI 0) dX5_keeps_33 34 rfl (by decide) ?_
  refine tg_istore C dX5_keeps_34 36 rfl [(4, .int (nI 0)), (0, .ref (ad 89)), (1, .int (nI t)), (2, .int (nI f9)), (3, .int (nI ln))] (by decide) rfl ?_
  have L36 : ∀ (n36 : Nat) (i : Nat) (σ1 : sS), (i ≤ ln ∧ (∀ j, j ≠ 94 → σ1 j = σ3 j) ∧ (∀ p, p < i → σ1 94 (17 * tx + p) = nI (rn n w (f9 + p))) ∧ ∀ q, q < 17 * tx → σ1 94 q = σ 94 q) → ln - i < n36 → TT p l e (Rm 1 23) s m args below meth c D cy ad A 5 0 0 Q σ1 36 [(0, .ref (ad 89)), (1, .int (nI t)), (2, .int (nI f9)), (3, .int (nI ln)), (4, .int (nI i))] [] := by
    intro n36
    induction n36 with
    | zero => intro i σ1 _ hn36; exact absurd hn36 (Nat.not_lt_zero _)
    | succ n36 ih36 =>
      intro i σ1 ⟨hi, hf, hr, ho⟩ hn36
      have hM1 : MM σ1 n w tc mg pr tx nx nm wh wd kp := hM3.fr2 (fun k _ => by rw [hf 89 (by decide)]) (hf 90 (by decide)) (fun k _ => by rw [hf 91 (by decide)]) (fun k _ => by rw [hf 92 (by decide)]) (fun k _ => by rw [hf 93 (by decide)]) (fun i hi => by rw [ho i hi, h394])
      refine tg_iload C dX5_keeps_36 38 rfl 4 rfl ?_
      refine tg_iload_n C dX5_keeps_38 39 rfl rfl 3 rfl ?_
      refine tg_icmp_ge C 71 dX5_keeps_39 (by decide) 42 rfl (fun c39 => ?_) (fun c39 => ?_)
      · -- to 71
        replace c39 : ln ≤ i := (nI_leI (by omega) (by omega)).mp c39
        refine tg_aload_n C dX5_keeps_71 72 rfl rfl 0 rfl ?_
        refine tg_dup C dX5_keeps_72 73 rfl rfl ?_
        refine tg_get (T := TX5) (N := 13) (Cn := RX5) C 89 (by decide) (e_89 ad cy _) rfl w1 6 (by decide) w2 rfl rfl dX5_keeps_73 76 rfl ?_
        refine tg_top (y := nI tx) (hM1.2.2.1) ?_
        refine tg_iconst C (nI 1) dX5_keeps_76 77 rfl (by decide) ?_
        refine tg_iadd C (nI (tx + 1)) dX5_keeps_77 78 rfl (nI_add tx 1) ?_
        refine tg_put (T := TX5) (N := 13) (Cn := RX5) C tyX5 tyX5_ok nmX5 89 (by decide) (e_89 ad cy _) rfl w1 6 (by decide) w2 rfl rfl (by decide +kernel) (Nat.le_of_ble_eq_true rfl) (e_89 ad cy _) dX5_keeps_78 81 rfl ?_
        obtain ⟨σ4, hσ4⟩ : ∃ z : sS, z = su σ1 89 6 (nI (tx + 1)) := ⟨_, rfl⟩
        rw [← hσ4]
        refine tg_aload_n C dX5_keeps_81 82 rfl rfl 0 rfl ?_
        refine tg_dup C dX5_keeps_82 83 rfl rfl ?_
        refine tg_get (T := TX5) (N := 13) (Cn := RX5) C 89 (by decide) (e_89 ad cy _) rfl w1 7 (by decide) w3 rfl rfl dX5_keeps_83 86 rfl ?_
        refine tg_top (y := nI nx) (by rw [hσ4, su_nk _ _ _ (by decide)]; exact hM1.2.2.2.1) ?_
        refine tg_iconst C (nI 1) dX5_keeps_86 87 rfl (by decide) ?_
        refine tg_iadd C (nI (nx + 1)) dX5_keeps_87 88 rfl (nI_add nx 1) ?_
        refine tg_put (T := TX5) (N := 13) (Cn := RX5) C tyX5 tyX5_ok nmX5 89 (by decide) (e_89 ad cy _) rfl w1 7 (by decide) w3 rfl rfl (by decide +kernel) (Nat.le_of_ble_eq_true rfl) (e_89 ad cy _) dX5_keeps_88 91 rfl ?_
        refine tg_aload_n C dX5_keeps_91 92 rfl rfl 0 rfl ?_
        refine tg_get (T := TX5) (N := 13) (Cn := RX5) C 89 (by decide) (e_89 ad cy _) rfl w1 7 (by decide) w3 rfl rfl dX5_keeps_92 95 rfl ?_
        refine tg_top (y := nI (nx + 1)) (su_eq _ _ _ _) ?_
        refine tg_iconst C (nI 1) dX5_keeps_95 96 rfl (by decide) ?_
        refine tg_isub C (nI nx) dX5_keeps_96 97 rfl (pk_sub (by omega)) ?_
        exact hret dX5_keeps_97 ⟨by first | rfl | (congr 1), by
            have hil : i = ln := by omega
            subst hil
            have h89 : σ1 89 = σ 89 := (hf 89 (by decide)).trans (h3o 89 (by decide) (by decide) (by decide))
            refine ⟨?_, ?_, ?_, fun p hp => ?_, fun q hq => ?_, ?_, fun j h1 h2 h3 h5 h6 => ?_⟩
            · rw [su_ni _ _ _ (by decide), hσ4, su_ni _ _ _ (by decide), hf 91 (by decide), h391]
            · rw [su_ni _ _ _ (by decide), hσ4, su_ni _ _ _ (by decide), hf 92 (by decide), h392]
            · rw [su_ni _ _ _ (by decide), hσ4, su_ni _ _ _ (by decide), hf 93 (by decide), h393]
            · rw [su_ni _ _ _ (by decide), hσ4, su_ni _ _ _ (by decide)]; exact hr p hp
            · rw [su_ni _ _ _ (by decide), hσ4, su_ni _ _ _ (by decide)]; exact ho q hq
            · rw [← h89, hσ4]
              show va_up _ _ _ _ = _
              rw [va_up_self]
              show upd (va_up _ _ _ _) _ _ = _
              rw [va_up_self]
            · rw [su_ni _ _ _ h1, hσ4, su_ni _ _ _ h1]; exact (hf j h6).trans (h3o j h2 h3 h5)⟩
      · -- on
        replace c39 : ¬ ln ≤ i := fun q => c39 ((nI_leI (by omega) (by omega)).mpr q)
        refine tg_aload_n C dX5_keeps_42 43 rfl rfl 0 rfl ?_
        refine tg_get (T := TX5) (N := 13) (Cn := RX5) C 89 (by decide) (e_89 ad cy _) rfl w1 11 (by decide) w6 rfl rfl dX5_keeps_43 46 rfl ?_
        refine tg_bipush C (nI 17) dX5_keeps_46 48 rfl (by decide) ?_
        refine tg_aload_n C dX5_keeps_48 49 rfl rfl 0 rfl ?_
        refine tg_get (T := TX5) (N := 13) (Cn := RX5) C 89 (by decide) (e_89 ad cy _) rfl w1 6 (by decide) w2 rfl rfl dX5_keeps_49 52 rfl ?_
        refine tg_top (y := nI tx) (hM1.2.2.1) ?_
        refine tg_imul C (nI (17 * tx)) dX5_keeps_52 53 rfl (pk_mul 17 tx) ?_
        refine tg_iload C dX5_keeps_53 55 rfl 4 rfl ?_
        refine tg_iadd C (nI ((17 * tx) + i)) dX5_keeps_55 56 rfl (nI_add (17 * tx) i) ?_
        refine tg_aload_n C dX5_keeps_56 57 rfl rfl 0 rfl ?_
        refine tg_iload_n C dX5_keeps_57 58 rfl rfl 2 rfl ?_
        refine tg_iload C dX5_keeps_58 60 rfl 4 rfl ?_
        refine tg_iadd C (nI (f9 + i)) dX5_keeps_60 61 rfl (nI_add f9 i) ?_
        refine tg_callVi C 89 (by decide) (e_89 ad cy _) rfl (c_X5_run l D cy ad hDis σ1 hM1 (k := f9 + i) (rc_lt (by omega))) (cwV 1 C.2.2.2.2.1 gX5_keeps_X5_run rfl rfl rfl (by decide +kernel) ⟨Nat.le_of_ble_eq_true rfl, Nat.le_of_ble_eq_true rfl⟩) rfl rfl (Nat.le_of_ble_eq_true rfl) ⟨Nat.le_of_ble_eq_true rfl, Nat.le_of_ble_eq_true rfl⟩ dX5_keeps_61 64 rfl (fun r61 τ61 h61 => ?_)
        obtain ⟨h61, h61s⟩ := h61
        subst h61s
        subst h61
        refine tg_iast C 94 (by decide) (e_94 ad cy) ((17 * tx) + i) rfl (by omega) (by decide) dX5_keeps_64 65 rfl ?_
        refine tg_iinc C (nI (i + 1)) dX5_keeps_65 68 rfl 4 rfl (nI_add i 1) [(4, .int (nI (i + 1))), (0, .ref (ad 89)), (1, .int (nI t)), (2, .int (nI f9)), (3, .int (nI ln))] (by decide) rfl ?_
        refine tg_goto C 36 dX5_keeps_68 (by decide) ?_
        refine tg_sub [1, 2, 3, 4, 0] rfl ?_
        exact ih36 (i + 1) (su σ1 94 ((17 * tx) + i) (nI (rn n w (f9 + i)))) ⟨by omega, fun j hj => by rw [su_ni _ _ _ hj]; exact hf j hj, fun p hp => by
            rw [su_ap]
            split
            · rename_i hh; rw [show p = i by omega]
            · exact hr p (by omega), fun q hq => by rw [su_nk _ _ _ (by omega)]; exact ho q hq⟩ (by omega)
  refine tg_sub [1, 2, 3, 4, 0] rfl ?_
  exact L36 _ 0 σ3 ⟨by omega, fun j _ => rfl, fun p h => by omega, fun q _ => by rw [h394]⟩ (Nat.lt_succ_self _)
set_option maxHeartbeats 4000000 in
set_option maxRecDepth 100000 in
theorem c_X5_teach (l : Launch) (D : va_G) (cy : Nat → ClassId) (ad : Nat → Nat) (hDis : Dis ad) (σ : sS) {n : Nat} {w : Nat → Nat} {tc mg pr tx nx : Nat} {nm wh wd : Nat → Nat} {kp : Nat → Nat → Nat} (hM : MM σ n w tc mg pr tx nx nm wh wd kp) (hnx1 : nx < 10000) {x : Int32} : Mi l yX5_teach wsX5_teach 2 47 D cy ad [.ref (ad 89), .int x] σ (fun r τ => (∃ t, t < tc ∧ x = nI t ∧ 0 < n ∧ tx < 30 ∧ r = nI nx ∧ KeptM (su σ 89 0 (nI 0)) τ tx nx t (rc n) 0 n w) ∨ (¬ inR x tc ∧ τ = su σ 89 0 (nI 1)) ∨ (inR x tc ∧ (n = 0 ∨ tx = 30) ∧ τ = su σ 89 0 (nI 2))) := by
  have w0 : Cond.fieldLink RX5 45 "TonguetellModel" "letters" "I" ∈ wsX5_teach := by decide +kernel
  have w1 : ∀ w ∈ wsX50, w ∈ wsX5_teach := by decide +kernel
  have w2 : Cond.fieldLink RX5 35 "TonguetellModel" "thrown" "I" ∈ wsX5_teach := by decide +kernel
  have w3 : Cond.fieldLink RX5 59 "TonguetellModel" "textMany" "I" ∈ wsX5_teach := by decide +kernel
  have hn16 := hM.1.2.1
  have htc5 := hM.2.1.2.2.2.1
  have htx := hM.2.2.2.2.1
  have hrc := rc_le hn16
  have hrn := hM.rn_lt
  have hwd := hM.wd_le
  have hmg := hM.2.1.2.2.2.2.1
  have hpr := hM.2.1.2.2.2.2.2
  have hnx := hM.2.2.2.2.2.1
  refine Mi.of (cc := cX5_teach) (nL := 2) (own := RX5) hDis (by decide) rfl [(0, .ref (ad 89)), (1, .int x)] rfl (Nat.le_of_ble_eq_true rfl) rfl ?_
  intro p e s m args below meth c A Q C hret
  refine tg_aload_n C dX5_teach_0 1 rfl rfl 0 rfl ?_
  refine tg_aload_n C dX5_teach_1 2 rfl rfl 0 rfl ?_
  refine tg_iload_n C dX5_teach_2 3 rfl rfl 1 rfl ?_
  refine tg_callVi C 89 (by decide) (e_89 ad cy _) rfl (c_X5_isTongue l D cy ad hDis σ hM (x := x)) (cwV 1 C.2.2.2.2.1 gX5_teach_X5_isTongue rfl rfl rfl (by decide +kernel) ⟨Nat.le_of_ble_eq_true rfl, Nat.le_of_ble_eq_true rfl⟩) rfl rfl (Nat.le_of_ble_eq_true rfl) ⟨Nat.le_of_ble_eq_true rfl, Nat.le_of_ble_eq_true rfl⟩ dX5_teach_3 6 rfl (fun r3 τ3 h3 => ?_)
  obtain ⟨h3, h3s⟩ := h3
  subst h3s
  subst h3
  refine tg_if_ne C 13 dX5_teach_6 (by decide) 9 rfl (fun c6 => ?_) (fun c6 => ?_)
  · -- to 13
    replace c6 : inR x tc := (inb_t (by omega)).mp (bI_n.mp c6)
    obtain ⟨t, ht, hxt⟩ := c6
    subst hxt
    refine tg_aload_n C dX5_teach_13 14 rfl rfl 0 rfl ?_
    refine tg_get (T := TX5) (N := 13) (Cn := RX5) C 89 (by decide) (e_89 ad cy _) rfl w1 2 (by decide) w0 rfl rfl dX5_teach_14 17 rfl ?_
    refine tg_top (y := nI n) (hM.1.1) ?_
    refine tg_if_eq C 29 dX5_teach_17 (by decide) 20 rfl (fun c17 => ?_) (fun c17 => ?_)
    · -- to 29
      replace c17 : n = 0 := (z_eq (by omega)).mp c17
      refine tg_iconst C (nI 2) dX5_teach_29 30 rfl (by decide) ?_
      refine tg_goto C 34 dX5_teach_30 (by decide) ?_
      refine tg_put (T := TX5) (N := 13) (Cn := RX5) C tyX5 tyX5_ok nmX5 89 (by decide) (e_89 ad cy _) rfl w1 0 (by decide) w2 rfl rfl (by decide +kernel) (Nat.le_of_ble_eq_true rfl) (e_89 ad cy _) dX5_teach_34 37 rfl ?_
      refine tg_aload_n C dX5_teach_37 38 rfl rfl 0 rfl ?_
      refine tg_get (T := TX5) (N := 13) (Cn := RX5) C 89 (by decide) (e_89 ad cy _) rfl w1 0 (by decide) w2 rfl rfl dX5_teach_38 41 rfl ?_
      refine tg_top (y := nI 2) (su_eq _ _ _ _) ?_
      refine tg_if_le C 48 dX5_teach_41 (by decide) 44 rfl (fun c41 => absurd c41 (by decide)) (fun c41 => ?_)
      refine tg_iconst C (nI 0) dX5_teach_44 45 rfl (by decide) ?_
      refine tg_goto C 58 dX5_teach_45 (by decide) ?_
      exact hret dX5_teach_58 (Or.inr (Or.inr ⟨⟨t, ht, rfl⟩, by omega, rfl⟩))
    · -- on
      replace c17 : ¬ n = 0 := fun q => c17 ((z_eq (by omega)).mpr q)
      refine tg_aload_n C dX5_teach_20 21 rfl rfl 0 rfl ?_
      refine tg_get (T := TX5) (N := 13) (Cn := RX5) C 89 (by decide) (e_89 ad cy _) rfl w1 6 (by decide) w3 rfl rfl dX5_teach_21 24 rfl ?_
      refine tg_top (y := nI tx) (hM.2.2.1) ?_
      refine tg_bipush C (nI 30) dX5_teach_24 26 rfl (by decide) ?_
      refine tg_icmp_ne C 33 dX5_teach_26 (by decide) 29 rfl (fun c26 => ?_) (fun c26 => ?_)
      · -- to 33
        replace c26 : ¬ tx = 30 := fun q => c26 ((nI_eq (by omega) (by omega)).mpr q)
        refine tg_iconst C (nI 0) dX5_teach_33 34 rfl (by decide) ?_
        refine tg_put (T := TX5) (N := 13) (Cn := RX5) C tyX5 tyX5_ok nmX5 89 (by decide) (e_89 ad cy _) rfl w1 0 (by decide) w2 rfl rfl (by decide +kernel) (Nat.le_of_ble_eq_true rfl) (e_89 ad cy _) dX5_teach_34 37 rfl ?_
        refine tg_aload_n C dX5_teach_37 38 rfl rfl 0 rfl ?_
        refine tg_get (T := TX5) (N := 13) (Cn := RX5) C 89 (by decide) (e_89 ad cy _) rfl w1 0 (by decide) w2 rfl rfl dX5_teach_38 41 rfl ?_
        refine tg_top (y := nI 0) (su_eq _ _ _ _) ?_
        refine tg_if_le C 48 dX5_teach_41 (by decide) 44 rfl (fun c41 => ?_) (fun c41 => absurd (by decide) c41)
        refine tg_aload_n C dX5_teach_48 49 rfl rfl 0 rfl ?_
        refine tg_iload_n C dX5_teach_49 50 rfl rfl 1 rfl ?_
        refine tg_iconst C (nI 0) dX5_teach_50 51 rfl (by decide) ?_
        refine tg_aload_n C dX5_teach_51 52 rfl rfl 0 rfl ?_
        refine tg_callVi C 89 (by decide) (e_89 ad cy _) rfl (c_X5_runMany l D cy ad hDis (su σ 89 0 (nI 0)) (hM.th (nI 0))) (cwV 0 C.2.2.2.2.1 gX5_teach_X5_runMany rfl rfl rfl (by decide +kernel) ⟨Nat.le_of_ble_eq_true rfl, Nat.le_of_ble_eq_true rfl⟩) rfl rfl (Nat.le_of_ble_eq_true rfl) ⟨Nat.le_of_ble_eq_true rfl, Nat.le_of_ble_eq_true rfl⟩ dX5_teach_52 55 rfl (fun r52 τ52 h52 => ?_)
        obtain ⟨h52, h52s⟩ := h52
        subst h52s
        subst h52
        refine tg_callVi C 89 (by decide) (e_89 ad cy _) rfl (c_X5_keeps l D cy ad hDis (su σ 89 0 (nI 0)) (hM.th (nI 0)) (t := t) (f9 := 0) (ln := rc n) (by omega) (by omega) (by omega) hnx1) (cwV 3 C.2.2.2.2.1 gX5_teach_X5_keeps rfl rfl rfl (by decide +kernel) ⟨Nat.le_of_ble_eq_true rfl, Nat.le_of_ble_eq_true rfl⟩) rfl rfl (Nat.le_of_ble_eq_true rfl) ⟨Nat.le_of_ble_eq_true rfl, Nat.le_of_ble_eq_true rfl⟩ dX5_teach_55 58 rfl (fun r55 τ55 h55 => ?_)
        exact hret dX5_teach_58 (Or.inl ⟨t, ht, rfl, by omega, by omega, h55.1, h55.2⟩)
      · -- on
        replace c26 : tx = 30 := (nI_eq (by omega) (by omega)).mp c26
        refine tg_iconst C (nI 2) dX5_teach_29 30 rfl (by decide) ?_
        refine tg_goto C 34 dX5_teach_30 (by decide) ?_
        refine tg_put (T := TX5) (N := 13) (Cn := RX5) C tyX5 tyX5_ok nmX5 89 (by decide) (e_89 ad cy _) rfl w1 0 (by decide) w2 rfl rfl (by decide +kernel) (Nat.le_of_ble_eq_true rfl) (e_89 ad cy _) dX5_teach_34 37 rfl ?_
        refine tg_aload_n C dX5_teach_37 38 rfl rfl 0 rfl ?_
        refine tg_get (T := TX5) (N := 13) (Cn := RX5) C 89 (by decide) (e_89 ad cy _) rfl w1 0 (by decide) w2 rfl rfl dX5_teach_38 41 rfl ?_
        refine tg_top (y := nI 2) (su_eq _ _ _ _) ?_
        refine tg_if_le C 48 dX5_teach_41 (by decide) 44 rfl (fun c41 => absurd c41 (by decide)) (fun c41 => ?_)
        refine tg_iconst C (nI 0) dX5_teach_44 45 rfl (by decide) ?_
        refine tg_goto C 58 dX5_teach_45 (by decide) ?_
        exact hret dX5_teach_58 (Or.inr (Or.inr ⟨⟨t, ht, rfl⟩, by omega, rfl⟩))
  · -- on
    replace c6 : ¬ inR x tc := (inb_f (by omega)).mp (bI_0.mp c6)
    refine tg_iconst C (nI 1) dX5_teach_9 10 rfl (by decide) ?_
    refine tg_goto C 34 dX5_teach_10 (by decide) ?_
    refine tg_put (T := TX5) (N := 13) (Cn := RX5) C tyX5 tyX5_ok nmX5 89 (by decide) (e_89 ad cy _) rfl w1 0 (by decide) w2 rfl rfl (by decide +kernel) (Nat.le_of_ble_eq_true rfl) (e_89 ad cy _) dX5_teach_34 37 rfl ?_
    refine tg_aload_n C dX5_teach_37 38 rfl rfl 0 rfl ?_
    refine tg_get (T := TX5) (N := 13) (Cn := RX5) C 89 (by decide) (e_89 ad cy _) rfl w1 0 (by decide) w2 rfl rfl dX5_teach_38 41 rfl ?_
    refine tg_top (y := nI 1) (su_eq _ _ _ _) ?_
    refine tg_if_le C 48 dX5_teach_41 (by decide) 44 rfl (fun c41 => absurd c41 (by decide)) (fun c41 => ?_)
    refine tg_iconst C (nI 0) dX5_teach_44 45 rfl (by decide) ?_
    refine tg_goto C 58 dX5_teach_45 (by decide) ?_
    exact hret dX5_teach_58 (Or.inr (Or.inl ⟨c6, rfl⟩))
set_option maxHeartbeats 4000000 in
set_option maxRecDepth 100000 in
theorem c_X5_learn (l : Launch) (D : va_G) (cy : Nat → ClassId) (ad : Nat → Nat) (hDis : Dis ad) (σ : sS) {n : Nat} {w : Nat → Nat} {tc mg pr tx nx : Nat} {nm wh wd : Nat → Nat} {kp : Nat → Nat → Nat} (hM : MM σ n w tc mg pr tx nx nm wh wd kp) (hnx1 : nx < 10000) {x : Int32} : Mi l yX5_learn wsX5_learn 3 74 D cy ad [.ref (ad 89), .int x] σ (fun r τ => (∃ least, least < 21 ∧ x = nI least ∧ tc < 5 ∧ tx < 30 ∧ (((lrn (fitk n w (cntN wh wd kp tx) (totN wh wd tx) tc least) (rc n)).1 < 3 ∧ r = -1 ∧ τ = su σ 89 0 (nI 0)) ∨ (3 ≤ (lrn (fitk n w (cntN wh wd kp tx) (totN wh wd tx) tc least) (rc n)).1 ∧ r = nI tc ∧ ∃ ρ, KeptM (su σ 89 0 (nI 0)) ρ tx nx tc (lrn (fitk n w (cntN wh wd kp tx) (totN wh wd tx) tc least) (rc n)).1 ((lrn (fitk n w (cntN wh wd kp tx) (totN wh wd tx) tc least) (rc n)).2.1 - (lrn (fitk n w (cntN wh wd kp tx) (totN wh wd tx) tc least) (rc n)).1) n w ∧ τ = su ρ 89 3 (nI (tc + 1))))) ∨ (¬ inR x 21 ∧ τ = su σ 89 0 (nI 1)) ∨ (inR x 21 ∧ (tc = 5 ∨ tx = 30) ∧ τ = su σ 89 0 (nI 2))) := by
  have w0 : Cond.fieldLink RX5 38 "TonguetellModel" "tongueMany" "I" ∈ wsX5_learn := by decide +kernel
  have w1 : ∀ w ∈ wsX50, w ∈ wsX5_learn := by decide +kernel
  have w2 : Cond.fieldLink RX5 35 "TonguetellModel" "thrown" "I" ∈ wsX5_learn := by decide +kernel
  have w3 : Cond.fieldLink RX5 59 "TonguetellModel" "textMany" "I" ∈ wsX5_learn := by decide +kernel
  have hn16 := hM.1.2.1
  have htc5 := hM.2.1.2.2.2.1
  have htx := hM.2.2.2.2.1
  have hrc := rc_le hn16
  have hrn := hM.rn_lt
  have hwd := hM.wd_le
  have hmg := hM.2.1.2.2.2.2.1
  have hpr := hM.2.1.2.2.2.2.2
  have hnx := hM.2.2.2.2.2.1
  refine Mi.of (cc := cX5_learn) (nL := 6) (own := RX5) hDis (by decide) rfl [(0, .ref (ad 89)), (1, .int x)] rfl (Nat.le_of_ble_eq_true rfl) rfl ?_
  intro p e s m args below meth c A Q C hret
  refine tg_aload_n C dX5_learn_0 1 rfl rfl 0 rfl ?_
  refine tg_iload_n C dX5_learn_1 2 rfl rfl 1 rfl ?_
  refine tg_iconst C (nI 0) dX5_learn_2 3 rfl (by decide) ?_
  refine tg_bipush C (nI 20) dX5_learn_3 5 rfl (by decide) ?_
  refine tg_callSi C (c_X5_in l D cy ad hDis σ (x := x) (y := nI 0) (z := bv 21)) (cwS 3 C.2.2.2.2.1 gX5_learn_X5_in rfl rfl rfl (by decide +kernel) ⟨Nat.le_of_ble_eq_true rfl, Nat.le_of_ble_eq_true rfl⟩) rfl rfl (Nat.le_of_ble_eq_true rfl) ⟨Nat.le_of_ble_eq_true rfl, Nat.le_of_ble_eq_true rfl⟩ dX5_learn_5 8 rfl (fun r5 τ5 h5 => ?_)
  obtain ⟨h5, h5s⟩ := h5
  subst h5s
  subst h5
  refine tg_if_ne C 15 dX5_learn_8 (by decide) 11 rfl (fun c8 => ?_) (fun c8 => ?_)
  · -- to 15
    replace c8 : inR x 21 := (inb_t (by omega)).mp (bI_n.mp c8)
    obtain ⟨least, hle, hxl⟩ := c8
    subst hxl
    refine tg_aload_n C dX5_learn_15 16 rfl rfl 0 rfl ?_
    refine tg_get (T := TX5) (N := 13) (Cn := RX5) C 89 (by decide) (e_89 ad cy _) rfl w1 3 (by decide) w0 rfl rfl dX5_learn_16 19 rfl ?_
    refine tg_top (y := nI tc) (hM.2.1.1) ?_
    refine tg_iconst C (nI 5) dX5_learn_19 20 rfl (by decide) ?_
    refine tg_icmp_eq C 32 dX5_learn_20 (by decide) 23 rfl (fun c20 => ?_) (fun c20 => ?_)
    · -- to 32
      replace c20 : tc = 5 := (nI_eq (by omega) (by omega)).mp c20
      refine tg_iconst C (nI 2) dX5_learn_32 33 rfl (by decide) ?_
      refine tg_goto C 37 dX5_learn_33 (by decide) ?_
      refine tg_put (T := TX5) (N := 13) (Cn := RX5) C tyX5 tyX5_ok nmX5 89 (by decide) (e_89 ad cy _) rfl w1 0 (by decide) w2 rfl rfl (by decide +kernel) (Nat.le_of_ble_eq_true rfl) (e_89 ad cy _) dX5_learn_37 40 rfl ?_
      refine tg_aload_n C dX5_learn_40 41 rfl rfl 0 rfl ?_
      refine tg_get (T := TX5) (N := 13) (Cn := RX5) C 89 (by decide) (e_89 ad cy _) rfl w1 0 (by decide) w2 rfl rfl dX5_learn_41 44 rfl ?_
      refine tg_top (y := nI 2) (su_eq _ _ _ _) ?_
      refine tg_if_le C 49 dX5_learn_44 (by decide) 47 rfl (fun c44 => absurd c44 (by decide)) (fun c44 => ?_)
      refine tg_iconst C (nI 0) dX5_learn_47 48 rfl (by decide) ?_
      exact hret dX5_learn_48 (Or.inr (Or.inr ⟨⟨least, hle, rfl⟩, by omega, rfl⟩))
    · -- on
      replace c20 : ¬ tc = 5 := fun q => c20 ((nI_eq (by omega) (by omega)).mpr q)
      refine tg_aload_n C dX5_learn_23 24 rfl rfl 0 rfl ?_
      refine tg_get (T := TX5) (N := 13) (Cn := RX5) C 89 (by decide) (e_89 ad cy _) rfl w1 6 (by decide) w3 rfl rfl dX5_learn_24 27 rfl ?_
      refine tg_top (y := nI tx) (hM.2.2.1) ?_
      refine tg_bipush C (nI 30) dX5_learn_27 29 rfl (by decide) ?_
      refine tg_icmp_ne C 36 dX5_learn_29 (by decide) 32 rfl (fun c29 => ?_) (fun c29 => ?_)
      · -- to 36
        replace c29 : ¬ tx = 30 := fun q => c29 ((nI_eq (by omega) (by omega)).mpr q)
        refine tg_iconst C (nI 0) dX5_learn_36 37 rfl (by decide) ?_
        refine tg_put (T := TX5) (N := 13) (Cn := RX5) C tyX5 tyX5_ok nmX5 89 (by decide) (e_89 ad cy _) rfl w1 0 (by decide) w2 rfl rfl (by decide +kernel) (Nat.le_of_ble_eq_true rfl) (e_89 ad cy _) dX5_learn_37 40 rfl ?_
        refine tg_aload_n C dX5_learn_40 41 rfl rfl 0 rfl ?_
        refine tg_get (T := TX5) (N := 13) (Cn := RX5) C 89 (by decide) (e_89 ad cy _) rfl w1 0 (by decide) w2 rfl rfl dX5_learn_41 44 rfl ?_
        refine tg_top (y := nI 0) (su_eq _ _ _ _) ?_
        refine tg_if_le C 49 dX5_learn_44 (by decide) 47 rfl (fun c44 => ?_) (fun c44 => absurd (by decide) c44)
        refine tg_iconst C (nI 0) dX5_learn_49 50 rfl (by decide) ?_
        refine tg_istore_n C dX5_learn_50 51 rfl rfl [(2, .int (nI 0)), (0, .ref (ad 89)), (1, .int (nI least))] (by decide) rfl ?_
        refine tg_iconst C (nI 0) dX5_learn_51 52 rfl (by decide) ?_
        refine tg_istore_n C dX5_learn_52 53 rfl rfl [(3, .int (nI 0)), (2, .int (nI 0)), (0, .ref (ad 89)), (1, .int (nI least))] (by decide) rfl ?_
        refine tg_iconst C (nI 0) dX5_learn_53 54 rfl (by decide) ?_
        refine tg_istore C dX5_learn_54 56 rfl [(4, .int (nI 0)), (3, .int (nI 0)), (2, .int (nI 0)), (0, .ref (ad 89)), (1, .int (nI least))] (by decide) rfl ?_
        refine tg_iconst C (nI 0) dX5_learn_56 57 rfl (by decide) ?_
        refine tg_istore C dX5_learn_57 59 rfl [(5, .int (nI 0)), (4, .int (nI 0)), (3, .int (nI 0)), (2, .int (nI 0)), (0, .ref (ad 89)), (1, .int (nI least))] (by decide) rfl ?_
        have L59 : ∀ (n59 : Nat) (k a9 b9 c9 s9 f9 : Nat), (k ≤ rc n ∧ lrn (fitk n w (cntN wh wd kp tx) (totN wh wd tx) tc least) k = (a9, b9, c9) ∧ s9 + a9 = b9 ∧ b9 ≤ k ∧ f9 + c9 = k) → rc n - k < n59 → TT p l e (Rm 3 74) s m args below meth c D cy ad A 6 0 0 Q (su σ 89 0 (nI 0)) 59 [(0, .ref (ad 89)), (1, .int (nI least)), (2, .int (nI s9)), (3, .int (nI a9)), (4, .int (nI f9)), (5, .int (nI k))] [] := by
          intro n59
          induction n59 with
          | zero => intro k a9 b9 c9 s9 f9 _ hn59; exact absurd hn59 (Nat.not_lt_zero _)
          | succ n59 ih59 =>
            intro k a9 b9 c9 s9 f9 ⟨hk, hl, hsa, hbk, hfc⟩ hn59
            refine tg_iload C dX5_learn_59 61 rfl 5 rfl ?_
            refine tg_aload_n C dX5_learn_61 62 rfl rfl 0 rfl ?_
            refine tg_callVi C 89 (by decide) (e_89 ad cy _) rfl (c_X5_runMany l D cy ad hDis (su σ 89 0 (nI 0)) (hM.th (nI 0))) (cwV 0 C.2.2.2.2.1 gX5_learn_X5_runMany rfl rfl rfl (by decide +kernel) ⟨Nat.le_of_ble_eq_true rfl, Nat.le_of_ble_eq_true rfl⟩) rfl rfl (Nat.le_of_ble_eq_true rfl) ⟨Nat.le_of_ble_eq_true rfl, Nat.le_of_ble_eq_true rfl⟩ dX5_learn_62 65 rfl (fun r62 τ62 h62 => ?_)
            obtain ⟨h62, h62s⟩ := h62
            subst h62s
            subst h62
            refine tg_icmp_ge C 117 dX5_learn_65 (by decide) 68 rfl (fun c65 => ?_) (fun c65 => ?_)
            · -- to 117
              replace c65 : (rc n) ≤ k := (nI_leI (by omega) (by omega)).mp c65
              refine tg_iload_n C dX5_learn_117 118 rfl rfl 3 rfl ?_
              refine tg_iconst C (nI 3) dX5_learn_118 119 rfl (by decide) ?_
              refine tg_icmp_ge C 124 dX5_learn_119 (by decide) 122 rfl (fun c119 => ?_) (fun c119 => ?_)
              · -- to 124
                replace c119 : 3 ≤ a9 := (nI_leI (by omega) (by omega)).mp c119
                refine tg_aload_n C dX5_learn_124 125 rfl rfl 0 rfl ?_
                refine tg_aload_n C dX5_learn_125 126 rfl rfl 0 rfl ?_
                refine tg_get (T := TX5) (N := 13) (Cn := RX5) C 89 (by decide) (e_89 ad cy _) rfl w1 3 (by decide) w0 rfl rfl dX5_learn_126 129 rfl ?_
                refine tg_top (y := nI tc) ((hM.th (nI 0)).2.1.1) ?_
                refine tg_iload_n C dX5_learn_129 130 rfl rfl 2 rfl ?_
                refine tg_iload_n C dX5_learn_130 131 rfl rfl 3 rfl ?_
                refine tg_callVi C 89 (by decide) (e_89 ad cy _) rfl (c_X5_keeps l D cy ad hDis (su σ 89 0 (nI 0)) (hM.th (nI 0)) (t := tc) (f9 := s9) (ln := a9) (by omega) (by omega) (by omega) hnx1) (cwV 3 C.2.2.2.2.1 gX5_learn_X5_keeps rfl rfl rfl (by decide +kernel) ⟨Nat.le_of_ble_eq_true rfl, Nat.le_of_ble_eq_true rfl⟩) rfl rfl (Nat.le_of_ble_eq_true rfl) ⟨Nat.le_of_ble_eq_true rfl, Nat.le_of_ble_eq_true rfl⟩ dX5_learn_131 134 rfl (fun r131 τ131 h131 => ?_)
                have h131t : τ131 89 3 = nI tc := by rw [h131.2.2.2.2.2.2.1]; exact hM.2.1.1
                refine tg_pop C dX5_learn_134 135 rfl rfl ?_
                refine tg_aload_n C dX5_learn_135 136 rfl rfl 0 rfl ?_
                refine tg_dup C dX5_learn_136 137 rfl rfl ?_
                refine tg_get (T := TX5) (N := 13) (Cn := RX5) C 89 (by decide) (e_89 ad cy _) rfl w1 3 (by decide) w0 rfl rfl dX5_learn_137 140 rfl ?_
                refine tg_top (y := nI tc) (h131t) ?_
                refine tg_iconst C (nI 1) dX5_learn_140 141 rfl (by decide) ?_
                refine tg_iadd C (nI (tc + 1)) dX5_learn_141 142 rfl (nI_add tc 1) ?_
                refine tg_put (T := TX5) (N := 13) (Cn := RX5) C tyX5 tyX5_ok nmX5 89 (by decide) (e_89 ad cy _) rfl w1 3 (by decide) w0 rfl rfl (by decide +kernel) (Nat.le_of_ble_eq_true rfl) (e_89 ad cy _) dX5_learn_142 145 rfl ?_
                refine tg_aload_n C dX5_learn_145 146 rfl rfl 0 rfl ?_
                refine tg_get (T := TX5) (N := 13) (Cn := RX5) C 89 (by decide) (e_89 ad cy _) rfl w1 3 (by decide) w0 rfl rfl dX5_learn_146 149 rfl ?_
                refine tg_top (y := nI (tc + 1)) (su_eq _ _ _ _) ?_
                refine tg_iconst C (nI 1) dX5_learn_149 150 rfl (by decide) ?_
                refine tg_isub C (nI tc) dX5_learn_150 151 rfl (pk_sub (by omega)) ?_
                exact hret dX5_learn_151 (Or.inl ⟨least, hle, rfl, by omega, by omega, Or.inr (by rw [← show k = rc n by omega, hl]; exact ⟨by show 3 ≤ a9; omega, rfl, τ131, by show KeptM _ _ _ _ _ a9 (b9 - a9) _ _; rw [show b9 - a9 = s9 by omega]; exact h131.2, rfl⟩)⟩)
              · -- on
                replace c119 : ¬ 3 ≤ a9 := fun q => c119 ((nI_leI (by omega) (by omega)).mpr q)
                refine tg_iconst C (-1) dX5_learn_122 123 rfl (by decide) ?_
                exact hret dX5_learn_123 (Or.inl ⟨least, hle, rfl, by omega, by omega, Or.inl ⟨by rw [← show k = rc n by omega, hl]; show a9 < 3; omega, rfl, rfl⟩⟩)
            · -- on
              replace c65 : ¬ (rc n) ≤ k := fun q => c65 ((nI_leI (by omega) (by omega)).mpr q)
              refine tg_aload_n C dX5_learn_68 69 rfl rfl 0 rfl ?_
              refine tg_iload C dX5_learn_69 71 rfl 5 rfl ?_
              refine tg_iload_n C dX5_learn_71 72 rfl rfl 1 rfl ?_
              refine tg_callVi C 89 (by decide) (e_89 ad cy _) rfl (c_X5_isStrange l D cy ad hDis (su σ 89 0 (nI 0)) (hM.th (nI 0)) (k := k) (least := least) (rc_lt (by omega)) (by omega)) (cwV 2 C.2.2.2.2.1 gX5_learn_X5_isStrange rfl rfl rfl (by decide +kernel) ⟨Nat.le_of_ble_eq_true rfl, Nat.le_of_ble_eq_true rfl⟩) rfl rfl (Nat.le_of_ble_eq_true rfl) ⟨Nat.le_of_ble_eq_true rfl, Nat.le_of_ble_eq_true rfl⟩ dX5_learn_72 75 rfl (fun r72 τ72 h72 => ?_)
              obtain ⟨h72, h72s⟩ := h72
              subst h72s
              subst h72
              refine tg_if_eq C 83 dX5_learn_75 (by decide) 78 rfl (fun c75 => ?_) (fun c75 => ?_)
              · -- to 83
                replace c75 := bI_0.mp c75
                refine tg_iload C dX5_learn_83 85 rfl 5 rfl ?_
                refine tg_iconst C (nI 1) dX5_learn_85 86 rfl (by decide) ?_
                refine tg_iadd C (nI (k + 1)) dX5_learn_86 87 rfl (nI_add k 1) ?_
                refine tg_istore C dX5_learn_87 89 rfl [(4, .int (nI (k + 1))), (0, .ref (ad 89)), (1, .int (nI least)), (2, .int (nI s9)), (3, .int (nI a9)), (5, .int (nI k))] (by decide) rfl ?_
                refine tg_iload C dX5_learn_89 91 rfl 5 rfl ?_
                refine tg_iconst C (nI 1) dX5_learn_91 92 rfl (by decide) ?_
                refine tg_iadd C (nI (k + 1)) dX5_learn_92 93 rfl (nI_add k 1) ?_
                refine tg_iload C dX5_learn_93 95 rfl 0 rfl ?_
                refine tg_isub C (nI ((k + 1) - (k + 1))) dX5_learn_95 96 rfl (pk_sub (by omega)) ?_
                refine tg_iload_n C dX5_learn_96 97 rfl rfl 4 rfl ?_
                refine tg_icmp_le C 111 dX5_learn_97 (by decide) 100 rfl (fun c97 => ?_) (fun c97 => ?_)
                · -- to 111
                  replace c97 : ((k + 1) - (k + 1)) ≤ a9 := (nI_leI (by omega) (by omega)).mp c97
                  refine tg_iinc C (nI (k + 1)) dX5_learn_111 114 rfl 5 rfl (nI_add k 1) [(5, .int (nI (k + 1))), (4, .int (nI (k + 1))), (0, .ref (ad 89)), (1, .int (nI least)), (2, .int (nI s9)), (3, .int (nI a9))] (by decide) rfl ?_
                  refine tg_goto C 59 dX5_learn_114 (by decide) ?_
                  refine tg_sub [2, 3, 4, 5, 1, 0] rfl ?_
                  exact ih59 (k + 1) (a9) (b9) (0) (s9) (k + 1) ⟨by omega, by rw [lrn_c hl c75], by omega, by omega, by omega⟩ (by omega)
                · -- on
                  replace c97 : ¬ ((k + 1) - (k + 1)) ≤ a9 := fun q => c97 ((nI_leI (by omega) (by omega)).mpr q)
                  refine tg_iload C dX5_learn_100 102 rfl 5 rfl ?_
                  refine tg_iconst C (nI 1) dX5_learn_102 103 rfl (by decide) ?_
                  refine tg_iadd C (nI (k + 1)) dX5_learn_103 104 rfl (nI_add k 1) ?_
                  refine tg_iload C dX5_learn_104 106 rfl 0 rfl ?_
                  refine tg_isub C (nI ((k + 1) - (k + 1))) dX5_learn_106 107 rfl (pk_sub (by omega)) ?_
                  refine tg_istore_n C dX5_learn_107 108 rfl rfl [(3, .int (nI ((k + 1) - (k + 1)))), (4, .int (nI (k + 1))), (0, .ref (ad 89)), (1, .int (nI least)), (2, .int (nI s9)), (5, .int (nI k))] (by decide) rfl ?_
                  refine tg_iload C dX5_learn_108 110 rfl 1 rfl ?_
                  refine tg_istore_n C dX5_learn_110 111 rfl rfl [(2, .int (nI (k + 1))), (3, .int (nI ((k + 1) - (k + 1)))), (4, .int (nI (k + 1))), (0, .ref (ad 89)), (1, .int (nI least)), (5, .int (nI k))] (by decide) rfl ?_
                  refine tg_iinc C (nI (k + 1)) dX5_learn_111 114 rfl 5 rfl (nI_add k 1) [(5, .int (nI (k + 1))), (2, .int (nI (k + 1))), (3, .int (nI ((k + 1) - (k + 1)))), (4, .int (nI (k + 1))), (0, .ref (ad 89)), (1, .int (nI least))] (by decide) rfl ?_
                  refine tg_goto C 59 dX5_learn_114 (by decide) ?_
                  refine tg_sub [4, 5, 1, 2, 3, 0] rfl ?_
                  exact absurd c97 (by omega)
              · -- on
                replace c75 := bI_n.mp c75
                refine tg_iload C dX5_learn_78 80 rfl 4 rfl ?_
                refine tg_goto C 87 dX5_learn_80 (by decide) ?_
                refine tg_istore C dX5_learn_87 89 rfl [(4, .int (nI f9)), (0, .ref (ad 89)), (1, .int (nI least)), (2, .int (nI s9)), (3, .int (nI a9)), (5, .int (nI k))] (by decide) rfl ?_
                refine tg_iload C dX5_learn_89 91 rfl 5 rfl ?_
                refine tg_iconst C (nI 1) dX5_learn_91 92 rfl (by decide) ?_
                refine tg_iadd C (nI (k + 1)) dX5_learn_92 93 rfl (nI_add k 1) ?_
                refine tg_iload C dX5_learn_93 95 rfl 0 rfl ?_
                refine tg_isub C (nI ((k + 1) - f9)) dX5_learn_95 96 rfl (pk_sub (by omega)) ?_
                refine tg_iload_n C dX5_learn_96 97 rfl rfl 4 rfl ?_
                refine tg_icmp_le C 111 dX5_learn_97 (by decide) 100 rfl (fun c97 => ?_) (fun c97 => ?_)
                · -- to 111
                  replace c97 : ((k + 1) - f9) ≤ a9 := (nI_leI (by omega) (by omega)).mp c97
                  refine tg_iinc C (nI (k + 1)) dX5_learn_111 114 rfl 5 rfl (nI_add k 1) [(5, .int (nI (k + 1))), (4, .int (nI f9)), (0, .ref (ad 89)), (1, .int (nI least)), (2, .int (nI s9)), (3, .int (nI a9))] (by decide) rfl ?_
                  refine tg_goto C 59 dX5_learn_114 (by decide) ?_
                  refine tg_sub [2, 3, 4, 5, 1, 0] rfl ?_
                  exact ih59 (k + 1) (a9) (b9) (c9 + 1) (s9) (f9) ⟨by omega, by rw [lrn_b hl c75 (by omega)], by omega, by omega, by omega⟩ (by omega)
                · -- on
                  replace c97 : ¬ ((k + 1) - f9) ≤ a9 := fun q => c97 ((nI_leI (by omega) (by omega)).mpr q)
                  refine tg_iload C dX5_learn_100 102 rfl 5 rfl ?_
                  refine tg_iconst C (nI 1) dX5_learn_102 103 rfl (by decide) ?_
                  refine tg_iadd C (nI (k + 1)) dX5_learn_103 104 rfl (nI_add k 1) ?_
                  refine tg_iload C dX5_learn_104 106 rfl 0 rfl ?_
                  refine tg_isub C (nI ((k + 1) - f9)) dX5_learn_106 107 rfl (pk_sub (by omega)) ?_
                  refine tg_istore_n C dX5_learn_107 108 rfl rfl [(3, .int (nI ((k + 1) - f9))), (4, .int (nI f9)), (0, .ref (ad 89)), (1, .int (nI least)), (2, .int (nI s9)), (5, .int (nI k))] (by decide) rfl ?_
                  refine tg_iload C dX5_learn_108 110 rfl 1 rfl ?_
                  refine tg_istore_n C dX5_learn_110 111 rfl rfl [(2, .int (nI f9)), (3, .int (nI ((k + 1) - f9))), (4, .int (nI f9)), (0, .ref (ad 89)), (1, .int (nI least)), (5, .int (nI k))] (by decide) rfl ?_
                  refine tg_iinc C (nI (k + 1)) dX5_learn_111 114 rfl 5 rfl (nI_add k 1) [(5, .int (nI (k + 1))), (2, .int (nI f9)), (3, .int (nI ((k + 1) - f9))), (4, .int (nI f9)), (0, .ref (ad 89)), (1, .int (nI least))] (by decide) rfl ?_
                  refine tg_goto C 59 dX5_learn_114 (by decide) ?_
                  refine tg_sub [4, 5, 1, 2, 3, 0] rfl ?_
                  exact ih59 (k + 1) ((k + 1) - f9) (k + 1) (c9 + 1) (f9) (f9) ⟨by omega, by rw [lrn_a hl c75 (by omega)]; congr 1; first | rfl | omega | (simp; omega), by omega, by omega, by omega⟩ (by omega)
        refine tg_sub [4, 5, 3, 2, 1, 0] rfl ?_
        exact L59 _ 0 0 0 0 0 0 ⟨by omega, rfl, by omega, by omega, by omega⟩ (Nat.lt_succ_self _)
      · -- on
        replace c29 : tx = 30 := (nI_eq (by omega) (by omega)).mp c29
        refine tg_iconst C (nI 2) dX5_learn_32 33 rfl (by decide) ?_
        refine tg_goto C 37 dX5_learn_33 (by decide) ?_
        refine tg_put (T := TX5) (N := 13) (Cn := RX5) C tyX5 tyX5_ok nmX5 89 (by decide) (e_89 ad cy _) rfl w1 0 (by decide) w2 rfl rfl (by decide +kernel) (Nat.le_of_ble_eq_true rfl) (e_89 ad cy _) dX5_learn_37 40 rfl ?_
        refine tg_aload_n C dX5_learn_40 41 rfl rfl 0 rfl ?_
        refine tg_get (T := TX5) (N := 13) (Cn := RX5) C 89 (by decide) (e_89 ad cy _) rfl w1 0 (by decide) w2 rfl rfl dX5_learn_41 44 rfl ?_
        refine tg_top (y := nI 2) (su_eq _ _ _ _) ?_
        refine tg_if_le C 49 dX5_learn_44 (by decide) 47 rfl (fun c44 => absurd c44 (by decide)) (fun c44 => ?_)
        refine tg_iconst C (nI 0) dX5_learn_47 48 rfl (by decide) ?_
        exact hret dX5_learn_48 (Or.inr (Or.inr ⟨⟨least, hle, rfl⟩, by omega, rfl⟩))
  · -- on
    replace c8 : ¬ inR x 21 := (inb_f (by omega)).mp (bI_0.mp c8)
    refine tg_iconst C (nI 1) dX5_learn_11 12 rfl (by decide) ?_
    refine tg_goto C 37 dX5_learn_12 (by decide) ?_
    refine tg_put (T := TX5) (N := 13) (Cn := RX5) C tyX5 tyX5_ok nmX5 89 (by decide) (e_89 ad cy _) rfl w1 0 (by decide) w2 rfl rfl (by decide +kernel) (Nat.le_of_ble_eq_true rfl) (e_89 ad cy _) dX5_learn_37 40 rfl ?_
    refine tg_aload_n C dX5_learn_40 41 rfl rfl 0 rfl ?_
    refine tg_get (T := TX5) (N := 13) (Cn := RX5) C 89 (by decide) (e_89 ad cy _) rfl w1 0 (by decide) w2 rfl rfl dX5_learn_41 44 rfl ?_
    refine tg_top (y := nI 1) (su_eq _ _ _ _) ?_
    refine tg_if_le C 49 dX5_learn_44 (by decide) 47 rfl (fun c44 => absurd c44 (by decide)) (fun c44 => ?_)
    refine tg_iconst C (nI 0) dX5_learn_47 48 rfl (by decide) ?_
    exact hret dX5_learn_48 (Or.inr (Or.inl ⟨c8, rfl⟩))
theorem shfI {s i k : Nat} {a b : Int32} (h : i < k) : (if s ≤ i ∧ i < k then a else b) = if s ≤ i then a else b := by
  by_cases q : s ≤ i
  · rw [if_pos q, if_pos ⟨q, h⟩]
  · rw [if_neg q, if_neg (fun z => q z.1)]
set_option maxHeartbeats 4000000 in
set_option maxRecDepth 100000 in
theorem c_X5_withdraw (l : Launch) (D : va_G) (cy : Nat → ClassId) (ad : Nat → Nat) (hDis : Dis ad) (σ : sS) {n : Nat} {w : Nat → Nat} {tc mg pr tx nx : Nat} {nm wh wd : Nat → Nat} {kp : Nat → Nat → Nat} (hM : MM σ n w tc mg pr tx nx nm wh wd kp) {x : Int32} : Mi l yX5_withdraw wsX5_withdraw 1 23 D cy ad [.ref (ad 89), .int x] σ (fun r τ => (∃ s, slt (σ 91) x tx = s + 1 ∧ s < tx ∧ r = nI (wd s) ∧ Shft σ τ s tx) ∨ (slt (σ 91) x tx = 0 ∧ τ = su σ 89 0 (nI 1))) := by
  have w0 : Cond.fieldLink RX5 35 "TonguetellModel" "thrown" "I" ∈ wsX5_withdraw := by decide +kernel
  have w1 : ∀ w ∈ wsX50, w ∈ wsX5_withdraw := by decide +kernel
  have w2 : Cond.fieldLink RX5 26 "TonguetellModel" "wide" "[I" ∈ wsX5_withdraw := by decide +kernel
  have w3 : Cond.fieldLink RX5 59 "TonguetellModel" "textMany" "I" ∈ wsX5_withdraw := by decide +kernel
  have w4 : Cond.fieldLink RX5 20 "TonguetellModel" "numbers" "[I" ∈ wsX5_withdraw := by decide +kernel
  have w5 : Cond.fieldLink RX5 23 "TonguetellModel" "whose" "[I" ∈ wsX5_withdraw := by decide +kernel
  have w6 : Cond.fieldLink RX5 29 "TonguetellModel" "kept" "[I" ∈ wsX5_withdraw := by decide +kernel
  have hn16 := hM.1.2.1
  have htc5 := hM.2.1.2.2.2.1
  have htx := hM.2.2.2.2.1
  have hrc := rc_le hn16
  have hrn := hM.rn_lt
  have hwd := hM.wd_le
  have hmg := hM.2.1.2.2.2.2.1
  have hpr := hM.2.1.2.2.2.2.2
  have hnx := hM.2.2.2.2.2.1
  have hsl := slt_le (σ 91) x tx
  refine Mi.of (cc := cX5_withdraw) (nL := 6) (own := RX5) hDis (by decide) rfl [(0, .ref (ad 89)), (1, .int x)] rfl (Nat.le_of_ble_eq_true rfl) rfl ?_
  intro p e s m args below meth c A Q C hret
  refine tg_aload_n C dX5_withdraw_0 1 rfl rfl 0 rfl ?_
  refine tg_iload_n C dX5_withdraw_1 2 rfl rfl 1 rfl ?_
  refine tg_callVi C 89 (by decide) (e_89 ad cy _) rfl (c_X5_slot l D cy ad hDis σ hM (x := x)) (cwV 1 C.2.2.2.2.1 gX5_withdraw_X5_slot rfl rfl rfl (by decide +kernel) ⟨Nat.le_of_ble_eq_true rfl, Nat.le_of_ble_eq_true rfl⟩) rfl rfl (Nat.le_of_ble_eq_true rfl) ⟨Nat.le_of_ble_eq_true rfl, Nat.le_of_ble_eq_true rfl⟩ dX5_withdraw_2 5 rfl (fun r2 τ2 h2 => ?_)
  obtain ⟨h2, h2s⟩ := h2
  subst h2s
  subst h2
  refine tg_istore_n C dX5_withdraw_5 6 rfl rfl [(2, .int (bv (slt (σ 91) x tx))), (0, .ref (ad 89)), (1, .int x)] (by decide) rfl ?_
  refine tg_aload_n C dX5_withdraw_6 7 rfl rfl 1 rfl ?_
  refine tg_iload_n C dX5_withdraw_7 8 rfl rfl 0 rfl ?_
  refine tg_iconst C (-1) dX5_withdraw_8 9 rfl (by decide) ?_
  refine tg_icmp_ne C 16 dX5_withdraw_9 (by decide) 12 rfl (fun c9 => ?_) (fun c9 => ?_)
  · -- to 16
    obtain ⟨s9, hs9⟩ : ∃ z, slt (σ 91) x tx = z + 1 := ⟨slt (σ 91) x tx - 1, by have : slt (σ 91) x tx ≠ 0 := fun h => c9 ((bv_m1 (by omega)).mpr h); omega⟩
    rw [hs9]
    refine tg_iconst C (nI 0) dX5_withdraw_16 17 rfl (by decide) ?_
    refine tg_put (T := TX5) (N := 13) (Cn := RX5) C tyX5 tyX5_ok nmX5 89 (by decide) (e_89 ad cy _) rfl w1 0 (by decide) w0 rfl rfl (by decide +kernel) (Nat.le_of_ble_eq_true rfl) (e_89 ad cy _) dX5_withdraw_17 20 rfl ?_
    refine tg_aload_n C dX5_withdraw_20 21 rfl rfl 1 rfl ?_
    refine tg_get (T := TX5) (N := 13) (Cn := RX5) C 89 (by decide) (e_89 ad cy _) rfl w1 0 (by decide) w0 rfl rfl dX5_withdraw_21 24 rfl ?_
    refine tg_top (y := nI 0) (su_eq _ _ _ _) ?_
    refine tg_if_le C 29 dX5_withdraw_24 (by decide) 27 rfl (fun c24 => ?_) (fun c24 => absurd (by decide) c24)
    refine tg_sub (lv' := [(2, .int (nI s9)), (0, .ref (ad 89)), (1, .int x)]) [0, 1, 2] rfl ?_
    refine tg_aload_n C dX5_withdraw_29 30 rfl rfl 1 rfl ?_
    refine tg_get (T := TX5) (N := 13) (Cn := RX5) C 89 (by decide) (e_89 ad cy _) rfl w1 10 (by decide) w2 rfl rfl dX5_withdraw_30 33 rfl ?_
    refine tg_iload_n C dX5_withdraw_33 34 rfl rfl 0 rfl ?_
    refine tg_iald C 93 (by decide) ((e_93 ad cy) _) s9 rfl (by omega) (by decide) dX5_withdraw_34 35 rfl ?_
    refine tg_top (y := nI (wd s9)) (((hM.th (nI 0)).2.2.2.2.2.2 s9 (by omega)).2.2.1.1) ?_
    refine tg_istore_n C dX5_withdraw_35 36 rfl rfl [(3, .int (nI (wd s9))), (2, .int (nI s9)), (0, .ref (ad 89)), (1, .int x)] (by decide) rfl ?_
    refine tg_aload_n C dX5_withdraw_36 37 rfl rfl 2 rfl ?_
    refine tg_dup C dX5_withdraw_37 38 rfl rfl ?_
    refine tg_get (T := TX5) (N := 13) (Cn := RX5) C 89 (by decide) (e_89 ad cy _) rfl w1 6 (by decide) w3 rfl rfl dX5_withdraw_38 41 rfl ?_
    refine tg_top (y := nI tx) ((hM.th (nI 0)).2.2.1) ?_
    refine tg_iconst C (nI 1) dX5_withdraw_41 42 rfl (by decide) ?_
    refine tg_isub C (nI (tx - 1)) dX5_withdraw_42 43 rfl (pk_sub (by omega)) ?_
    refine tg_put (T := TX5) (N := 13) (Cn := RX5) C tyX5 tyX5_ok nmX5 89 (by decide) (e_89 ad cy _) rfl w1 6 (by decide) w3 rfl rfl (by decide +kernel) (Nat.le_of_ble_eq_true rfl) (e_89 ad cy _) dX5_withdraw_43 46 rfl ?_
    obtain ⟨σ0, hσ0⟩ : ∃ z : sS, z = su (su σ 89 0 (nI 0)) 89 6 (nI (tx - 1)) := ⟨_, rfl⟩
    rw [← hσ0]
    have h0o : ∀ j, j ≠ 89 → σ0 j = σ j := fun j h1 => by rw [hσ0, su_ni _ _ _ h1, su_ni _ _ _ h1]
    refine tg_iload_n C dX5_withdraw_46 47 rfl rfl 1 rfl ?_
    refine tg_istore C dX5_withdraw_47 49 rfl [(4, .int (nI s9)), (3, .int (nI (wd s9))), (2, .int (nI s9)), (0, .ref (ad 89)), (1, .int x)] (by decide) rfl ?_
    have L49 : ∀ (n49 : Nat) (k : Nat) (σ1 : sS), ((s9 ≤ k ∧ k ≤ tx - 1) ∧ ((∀ i, σ1 91 i = if s9 ≤ i ∧ i < k then σ 91 (i + 1) else σ 91 i) ∧ (∀ i, σ1 92 i = if s9 ≤ i ∧ i < k then σ 92 (i + 1) else σ 92 i) ∧ (∀ i, σ1 93 i = if s9 ≤ i ∧ i < k then σ 93 (i + 1) else σ 93 i)) ∧ (∀ i j, i < 30 → j < 17 → σ1 94 (17 * i + j) = if s9 ≤ i ∧ i < k then σ 94 (17 * (i + 1) + j) else σ 94 (17 * i + j)) ∧ σ1 89 = σ0 89 ∧ ∀ j, j ≠ 89 → j ≠ 91 → j ≠ 92 → j ≠ 93 → j ≠ 94 → σ1 j = σ j) → tx - 1 - k < n49 → TT p l e (Rm 1 23) s m args below meth c D cy ad A 6 0 0 Q σ1 49 [(0, .ref (ad 89)), (1, .int x), (2, .int (nI s9)), (3, .int (nI (wd s9))), (4, .int (nI k))] [] := by
      intro n49
      induction n49 with
      | zero => intro k σ1 _ hn49; exact absurd hn49 (Nat.not_lt_zero _)
      | succ n49 ih49 =>
        intro k σ1 ⟨⟨hk, hk2⟩, ⟨h91, h92, h93⟩, h94, h89, hf⟩ hn49
        refine tg_iload C dX5_withdraw_49 51 rfl 4 rfl ?_
        refine tg_aload_n C dX5_withdraw_51 52 rfl rfl 0 rfl ?_
        refine tg_get (T := TX5) (N := 13) (Cn := RX5) C 89 (by decide) (e_89 ad cy _) rfl w1 6 (by decide) w3 rfl rfl dX5_withdraw_52 55 rfl ?_
        refine tg_top (y := nI (tx - 1)) (by rw [h89, hσ0]; exact su_eq _ _ _ _) ?_
        refine tg_icmp_ge C 156 dX5_withdraw_55 (by decide) 58 rfl (fun c55 => ?_) (fun c55 => ?_)
        · -- to 156
          replace c55 : (tx - 1) ≤ k := (nI_leI (by omega) (by omega)).mp c55
          refine tg_iload_n C dX5_withdraw_156 157 rfl rfl 3 rfl ?_
          exact hret dX5_withdraw_157 (Or.inl ⟨s9, hs9, by omega, rfl, by rw [h89, hσ0]; exact (va_up_self _ _ _).trans (by rw [show (su σ 89 0 (nI 0)) 89 = upd (σ 89) 0 (nI 0) from va_up_self _ _ _]), fun k9 hk9 => ⟨by rw [h91]; exact shfI (by omega), by rw [h92]; exact shfI (by omega), by rw [h93]; exact shfI (by omega), fun j hj => by rw [h94 k9 j (by omega) hj]; exact shfI (by omega)⟩, hf⟩)
        · -- on
          replace c55 : ¬ (tx - 1) ≤ k := fun q => c55 ((nI_leI (by omega) (by omega)).mpr q)
          refine tg_aload_n C dX5_withdraw_58 59 rfl rfl 0 rfl ?_
          refine tg_get (T := TX5) (N := 13) (Cn := RX5) C 89 (by decide) (e_89 ad cy _) rfl w1 8 (by decide) w4 rfl rfl dX5_withdraw_59 62 rfl ?_
          refine tg_iload C dX5_withdraw_62 64 rfl 4 rfl ?_
          refine tg_aload_n C dX5_withdraw_64 65 rfl rfl 0 rfl ?_
          refine tg_get (T := TX5) (N := 13) (Cn := RX5) C 89 (by decide) (e_89 ad cy _) rfl w1 8 (by decide) w4 rfl rfl dX5_withdraw_65 68 rfl ?_
          refine tg_iload C dX5_withdraw_68 70 rfl 4 rfl ?_
          refine tg_iconst C (nI 1) dX5_withdraw_70 71 rfl (by decide) ?_
          refine tg_iadd C (nI (k + 1)) dX5_withdraw_71 72 rfl (nI_add k 1) ?_
          refine tg_iald C 91 (by decide) ((e_91 ad cy) _) (k + 1) rfl (by omega) (by decide) dX5_withdraw_72 73 rfl ?_
          refine tg_iast C 91 (by decide) (e_91 ad cy) k rfl (by omega) (by decide) dX5_withdraw_73 74 rfl ?_
          refine tg_aload_n C dX5_withdraw_74 75 rfl rfl 0 rfl ?_
          refine tg_get (T := TX5) (N := 13) (Cn := RX5) C 89 (by decide) (e_89 ad cy _) rfl w1 9 (by decide) w5 rfl rfl dX5_withdraw_75 78 rfl ?_
          refine tg_iload C dX5_withdraw_78 80 rfl 4 rfl ?_
          refine tg_aload_n C dX5_withdraw_80 81 rfl rfl 0 rfl ?_
          refine tg_get (T := TX5) (N := 13) (Cn := RX5) C 89 (by decide) (e_89 ad cy _) rfl w1 9 (by decide) w5 rfl rfl dX5_withdraw_81 84 rfl ?_
          refine tg_iload C dX5_withdraw_84 86 rfl 4 rfl ?_
          refine tg_iconst C (nI 1) dX5_withdraw_86 87 rfl (by decide) ?_
          refine tg_iadd C (nI (k + 1)) dX5_withdraw_87 88 rfl (nI_add k 1) ?_
          refine tg_iald C 92 (by decide) ((e_92 ad cy) _) (k + 1) rfl (by omega) (by decide) dX5_withdraw_88 89 rfl ?_
          refine tg_top (y := σ1 92 (k + 1)) (by rw [su_ni _ _ _ (by decide)]) ?_
          refine tg_iast C 92 (by decide) (e_92 ad cy) k rfl (by omega) (by decide) dX5_withdraw_89 90 rfl ?_
          refine tg_aload_n C dX5_withdraw_90 91 rfl rfl 0 rfl ?_
          refine tg_get (T := TX5) (N := 13) (Cn := RX5) C 89 (by decide) (e_89 ad cy _) rfl w1 10 (by decide) w2 rfl rfl dX5_withdraw_91 94 rfl ?_
          refine tg_iload C dX5_withdraw_94 96 rfl 4 rfl ?_
          refine tg_aload_n C dX5_withdraw_96 97 rfl rfl 0 rfl ?_
          refine tg_get (T := TX5) (N := 13) (Cn := RX5) C 89 (by decide) (e_89 ad cy _) rfl w1 10 (by decide) w2 rfl rfl dX5_withdraw_97 100 rfl ?_
          refine tg_iload C dX5_withdraw_100 102 rfl 4 rfl ?_
          refine tg_iconst C (nI 1) dX5_withdraw_102 103 rfl (by decide) ?_
          refine tg_iadd C (nI (k + 1)) dX5_withdraw_103 104 rfl (nI_add k 1) ?_
          refine tg_iald C 93 (by decide) ((e_93 ad cy) _) (k + 1) rfl (by omega) (by decide) dX5_withdraw_104 105 rfl ?_
          refine tg_top (y := σ1 93 (k + 1)) (by rw [su_ni _ _ _ (by decide), su_ni _ _ _ (by decide)]) ?_
          refine tg_iast C 93 (by decide) (e_93 ad cy) k rfl (by omega) (by decide) dX5_withdraw_105 106 rfl ?_
          obtain ⟨σ3, hσ3⟩ : ∃ z : sS, z = su (su (su σ1 91 k (σ1 91 (k + 1))) 92 k (σ1 92 (k + 1))) 93 k (σ1 93 (k + 1)) := ⟨_, rfl⟩
          rw [← hσ3]
          have h391 : ∀ i, σ3 91 i = if s9 ≤ i ∧ i < k + 1 then σ 91 (i + 1) else σ 91 i := fun i => by
            rw [hσ3, su_ni _ _ _ (by decide), su_ni _ _ _ (by decide), su_ap]
            split
            · rename_i hh; rw [hh.2, if_pos (by omega), h91, if_neg (by omega)]
            · rename_i hh
              rw [h91]
              by_cases q : s9 ≤ i ∧ i < k
              · rw [if_pos q, if_pos (by omega)]
              · rw [if_neg q, if_neg (by omega)]
          have h392 : ∀ i, σ3 92 i = if s9 ≤ i ∧ i < k + 1 then σ 92 (i + 1) else σ 92 i := fun i => by
            rw [hσ3, su_ni _ _ _ (by decide), su_ap]
            split
            · rename_i hh; rw [hh.2, if_pos (by omega), h92, if_neg (by omega)]
            · rename_i hh
              rw [su_ni _ _ _ (by decide), h92]
              by_cases q : s9 ≤ i ∧ i < k
              · rw [if_pos q, if_pos (by omega)]
              · rw [if_neg q, if_neg (by omega)]
          have h393 : ∀ i, σ3 93 i = if s9 ≤ i ∧ i < k + 1 then σ 93 (i + 1) else σ 93 i := fun i => by
            rw [hσ3, su_ap]
            split
            · rename_i hh; rw [hh.2, if_pos (by omega), h93, if_neg (by omega)]
            · rename_i hh
              rw [su_ni _ _ _ (by decide), su_ni _ _ _ (by decide), h93]
              by_cases q : s9 ≤ i ∧ i < k
              · rw [if_pos q, if_pos (by omega)]
              · rw [if_neg q, if_neg (by omega)]
          have h3o : ∀ j, j ≠ 91 → j ≠ 92 → j ≠ 93 → σ3 j = σ1 j := fun j h1 h2 h3 => by rw [hσ3, su_ni _ _ _ h3, su_ni _ _ _ h2, su_ni _ _ _ h1]
          refine tg_iconst C (nI 0) dX5_withdraw_106 107 rfl (by decide) ?_
          refine tg_istore C dX5_withdraw_107 109 rfl [(5, .int (nI 0)), (0, .ref (ad 89)), (1, .int x), (2, .int (nI s9)), (3, .int (nI (wd s9))), (4, .int (nI k))] (by decide) rfl ?_
          have L109 : ∀ (n109 : Nat) (j9 : Nat) (σ2 : sS), (j9 ≤ 17 ∧ (∀ i j, i < 30 → j < 17 → σ2 94 (17 * i + j) = if (s9 ≤ i ∧ i < k) ∨ (i = k ∧ j < j9) then σ 94 (17 * (i + 1) + j) else σ 94 (17 * i + j)) ∧ ∀ j, j ≠ 94 → σ2 j = σ3 j) → 17 - j9 < n109 → TT p l e (Rm 1 23) s m args below meth c D cy ad A 6 0 0 Q σ2 109 [(0, .ref (ad 89)), (1, .int x), (2, .int (nI s9)), (3, .int (nI (wd s9))), (4, .int (nI k)), (5, .int (nI j9))] [] := by
            intro n109
            induction n109 with
            | zero => intro j9 σ2 _ hn109; exact absurd hn109 (Nat.not_lt_zero _)
            | succ n109 ih109 =>
              intro j9 σ2 ⟨hj, hr, hf2⟩ hn109
              refine tg_iload C dX5_withdraw_109 111 rfl 5 rfl ?_
              refine tg_bipush C (nI 17) dX5_withdraw_111 113 rfl (by decide) ?_
              refine tg_icmp_ge C 150 dX5_withdraw_113 (by decide) 116 rfl (fun c113 => ?_) (fun c113 => ?_)
              · -- to 150
                replace c113 : 17 ≤ j9 := (nI_leI (by omega) (by omega)).mp c113
                refine tg_iinc C (nI (k + 1)) dX5_withdraw_150 153 rfl 4 rfl (nI_add k 1) [(4, .int (nI (k + 1))), (0, .ref (ad 89)), (1, .int x), (2, .int (nI s9)), (3, .int (nI (wd s9))), (5, .int (nI j9))] (by decide) rfl ?_
                refine tg_goto C 49 dX5_withdraw_153 (by decide) ?_
                refine tg_sub [1, 2, 3, 4, 0] rfl ?_
                exact ih49 (k + 1) σ2 ⟨⟨by omega, by omega⟩, ⟨fun i => by rw [hf2 91 (by decide)]; exact h391 i, fun i => by rw [hf2 92 (by decide)]; exact h392 i, fun i => by rw [hf2 93 (by decide)]; exact h393 i⟩, fun i j hi hj9 => by
                    rw [hr i j hi hj9]
                    by_cases q : (s9 ≤ i ∧ i < k) ∨ (i = k ∧ j < j9)
                    · rw [if_pos q, if_pos (by omega)]
                    · rw [if_neg q, if_neg (by omega)], (hf2 89 (by decide)).trans ((h3o 89 (by decide) (by decide) (by decide)).trans h89), fun j h1 h2 h3 h5 h6 => (hf2 j h6).trans ((h3o j h2 h3 h5).trans (hf j h1 h2 h3 h5 h6))⟩ (by omega)
              · -- on
                replace c113 : ¬ 17 ≤ j9 := fun q => c113 ((nI_leI (by omega) (by omega)).mpr q)
                refine tg_aload_n C dX5_withdraw_116 117 rfl rfl 0 rfl ?_
                refine tg_get (T := TX5) (N := 13) (Cn := RX5) C 89 (by decide) (e_89 ad cy _) rfl w1 11 (by decide) w6 rfl rfl dX5_withdraw_117 120 rfl ?_
                refine tg_bipush C (nI 17) dX5_withdraw_120 122 rfl (by decide) ?_
                refine tg_iload C dX5_withdraw_122 124 rfl 4 rfl ?_
                refine tg_imul C (nI (17 * k)) dX5_withdraw_124 125 rfl (pk_mul 17 k) ?_
                refine tg_iload C dX5_withdraw_125 127 rfl 5 rfl ?_
                refine tg_iadd C (nI ((17 * k) + j9)) dX5_withdraw_127 128 rfl (nI_add (17 * k) j9) ?_
                refine tg_aload_n C dX5_withdraw_128 129 rfl rfl 0 rfl ?_
                refine tg_get (T := TX5) (N := 13) (Cn := RX5) C 89 (by decide) (e_89 ad cy _) rfl w1 11 (by decide) w6 rfl rfl dX5_withdraw_129 132 rfl ?_
                refine tg_bipush C (nI 17) dX5_withdraw_132 134 rfl (by decide) ?_
                refine tg_iload C dX5_withdraw_134 136 rfl 4 rfl ?_
                refine tg_iconst C (nI 1) dX5_withdraw_136 137 rfl (by decide) ?_
                refine tg_iadd C (nI (k + 1)) dX5_withdraw_137 138 rfl (nI_add k 1) ?_
                refine tg_imul C (nI (17 * (k + 1))) dX5_withdraw_138 139 rfl (pk_mul 17 (k + 1)) ?_
                refine tg_iload C dX5_withdraw_139 141 rfl 5 rfl ?_
                refine tg_iadd C (nI ((17 * (k + 1)) + j9)) dX5_withdraw_141 142 rfl (nI_add (17 * (k + 1)) j9) ?_
                refine tg_iald C 94 (by decide) ((e_94 ad cy) _) ((17 * (k + 1)) + j9) rfl (by omega) (by decide) dX5_withdraw_142 143 rfl ?_
                refine tg_iast C 94 (by decide) (e_94 ad cy) ((17 * k) + j9) rfl (by omega) (by decide) dX5_withdraw_143 144 rfl ?_
                refine tg_iinc C (nI (j9 + 1)) dX5_withdraw_144 147 rfl 5 rfl (nI_add j9 1) [(5, .int (nI (j9 + 1))), (0, .ref (ad 89)), (1, .int x), (2, .int (nI s9)), (3, .int (nI (wd s9))), (4, .int (nI k))] (by decide) rfl ?_
                refine tg_goto C 109 dX5_withdraw_147 (by decide) ?_
                refine tg_sub [1, 2, 3, 4, 5, 0] rfl ?_
                exact ih109 (j9 + 1) (su σ2 94 ((17 * k) + j9) (σ2 94 ((17 * (k + 1)) + j9))) ⟨by omega, fun i j hi hj17 => by
                    rw [su_ap]
                    split
                    · rename_i hh
                      obtain ⟨rfl, rfl⟩ : i = k ∧ j = j9 := by omega
                      rw [if_pos (by omega), hr (i + 1) j (by omega) hj17, if_neg (by omega)]
                    · rename_i hh
                      rw [hr i j hi hj17]
                      by_cases q : (s9 ≤ i ∧ i < k) ∨ (i = k ∧ j < j9)
                      · rw [if_pos q, if_pos (by omega)]
                      · rw [if_neg q, if_neg (by omega)], fun j hj => by rw [su_ni _ _ _ hj]; exact hf2 j hj⟩ (by omega)
          refine tg_sub [1, 2, 3, 4, 5, 0] rfl ?_
          exact L109 _ 0 σ3 ⟨by omega, fun i j hi hj => by
              rw [h3o 94 (by decide) (by decide) (by decide), h94 i j hi hj]
              by_cases q : s9 ≤ i ∧ i < k
              · rw [if_pos q, if_pos (Or.inl q)]
              · rw [if_neg q, if_neg (by omega)], fun j _ => rfl⟩ (Nat.lt_succ_self _)
    refine tg_sub [3, 4, 2, 1, 0] rfl ?_
    exact L49 _ s9 σ0 ⟨⟨Nat.le_refl _, by omega⟩, ⟨fun i => by rw [if_neg (by omega), h0o 91 (by decide)], fun i => by rw [if_neg (by omega), h0o 92 (by decide)], fun i => by rw [if_neg (by omega), h0o 93 (by decide)]⟩, fun i j _ _ => by rw [if_neg (by omega), h0o 94 (by decide)], rfl, fun j h1 _ _ _ _ => h0o j h1⟩ (Nat.lt_succ_self _)
  · -- on
    replace c9 := (bv_m1 (by omega)).mp c9
    refine tg_iconst C (nI 1) dX5_withdraw_12 13 rfl (by decide) ?_
    refine tg_goto C 17 dX5_withdraw_13 (by decide) ?_
    refine tg_put (T := TX5) (N := 13) (Cn := RX5) C tyX5 tyX5_ok nmX5 89 (by decide) (e_89 ad cy _) rfl w1 0 (by decide) w0 rfl rfl (by decide +kernel) (Nat.le_of_ble_eq_true rfl) (e_89 ad cy _) dX5_withdraw_17 20 rfl ?_
    refine tg_aload_n C dX5_withdraw_20 21 rfl rfl 1 rfl ?_
    refine tg_get (T := TX5) (N := 13) (Cn := RX5) C 89 (by decide) (e_89 ad cy _) rfl w1 0 (by decide) w0 rfl rfl dX5_withdraw_21 24 rfl ?_
    refine tg_top (y := nI 1) (su_eq _ _ _ _) ?_
    refine tg_if_le C 29 dX5_withdraw_24 (by decide) 27 rfl (fun c24 => absurd c24 (by decide)) (fun c24 => ?_)
    refine tg_iconst C (nI 0) dX5_withdraw_27 28 rfl (by decide) ?_
    exact hret dX5_withdraw_28 (Or.inr ⟨c9, rfl⟩)
