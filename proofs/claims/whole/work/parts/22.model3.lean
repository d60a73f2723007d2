/-! ===== the reference: telling, spelling, numbers of texts ===== -/
set_option maxHeartbeats 4000000 in
set_option maxRecDepth 100000 in
theorem c_X5_textCost (l : Launch) (D : va_G) (cy : Nat → ClassId) (ad : Nat → Nat) (hDis : Dis ad) (σ : sS) {n : Nat} {w : Nat → Nat} {tc mg pr tx nx : Nat} {nm wh wd : Nat → Nat} {kp : Nat → Nat → Nat} (hM : MM σ n w tc mg pr tx nx nm wh wd kp) {x : Int32} : Mi l yX5_textCost wsX5_textCost 3 73 D cy ad [.ref (ad 89), .int x] σ (fun r τ => (∃ t, t < tc ∧ x = nI t ∧ r = nI (ctxN n w (cntN wh wd kp tx t) (totN wh wd tx t)) ∧ τ = su σ 89 0 (nI 0)) ∨ (¬ inR x tc ∧ τ = su σ 89 0 (nI 1))) := by
  have w0 : Cond.fieldLink RX5 35 "TonguetellModel" "thrown" "I" ∈ wsX5_textCost := by decide +kernel
  have w1 : ∀ w ∈ wsX50, w ∈ wsX5_textCost := by decide +kernel
  have hn16 := hM.1.2.1
  have htc5 := hM.2.1.2.2.2.1
  have htx := hM.2.2.2.2.1
  have hrc := rc_le hn16
  have hrn := hM.rn_lt
  have hwd := hM.wd_le
  have hmg := hM.2.1.2.2.2.2.1
  have hpr := hM.2.1.2.2.2.2.2
  have hnx := hM.2.2.2.2.2.1
  refine Mi.of (cc := cX5_textCost) (nL := 2) (own := RX5) hDis (by decide) rfl [(0, .ref (ad 89)), (1, .int x)] rfl (Nat.le_of_ble_eq_true rfl) rfl ?_
  intro p e s m args below meth c A Q C hret
  refine tg_aload_n C dX5_textCost_0 1 rfl rfl 0 rfl ?_
  refine tg_aload_n C dX5_textCost_1 2 rfl rfl 0 rfl ?_
  refine tg_iload_n C dX5_textCost_2 3 rfl rfl 1 rfl ?_
  refine tg_callVi C 89 (by decide) (e_89 ad cy _) rfl (c_X5_isTongue l D cy ad hDis σ hM (x := x)) (cwV 1 C.2.2.2.2.1 gX5_textCost_X5_isTongue rfl rfl rfl (by decide +kernel) ⟨Nat.le_of_ble_eq_true rfl, Nat.le_of_ble_eq_true rfl⟩) rfl rfl (Nat.le_of_ble_eq_true rfl) ⟨Nat.le_of_ble_eq_true rfl, Nat.le_of_ble_eq_true rfl⟩ dX5_textCost_3 6 rfl (fun r3 τ3 h3 => ?_)
  obtain ⟨h3, h3s⟩ := h3
  subst h3s
  subst h3
  refine tg_if_eq C 13 dX5_textCost_6 (by decide) 9 rfl (fun c6 => ?_) (fun c6 => ?_)
  · -- to 13
    replace c6 : ¬ inR x tc := (inb_f (by omega)).mp (bI_0.mp c6)
    refine tg_iconst C (nI 1) dX5_textCost_13 14 rfl (by decide) ?_
    refine tg_put (T := TX5) (N := 13) (Cn := RX5) C tyX5 tyX5_ok nmX5 89 (by decide) (e_89 ad cy _) rfl w1 0 (by decide) w0 rfl rfl (by decide +kernel) (Nat.le_of_ble_eq_true rfl) (e_89 ad cy _) dX5_textCost_14 17 rfl ?_
    refine tg_aload_n C dX5_textCost_17 18 rfl rfl 0 rfl ?_
    refine tg_get (T := TX5) (N := 13) (Cn := RX5) C 89 (by decide) (e_89 ad cy _) rfl w1 0 (by decide) w0 rfl rfl dX5_textCost_18 21 rfl ?_
    refine tg_top (y := nI 1) (su_eq _ _ _ _) ?_
    refine tg_if_le C 28 dX5_textCost_21 (by decide) 24 rfl (fun c21 => absurd c21 (by decide)) (fun c21 => ?_)
    refine tg_iconst C (nI 0) dX5_textCost_24 25 rfl (by decide) ?_
    refine tg_goto C 33 dX5_textCost_25 (by decide) ?_
    exact hret dX5_textCost_33 (Or.inr ⟨c6, rfl⟩)
  · -- on
    replace c6 : inR x tc := (inb_t (by omega)).mp (bI_n.mp c6)
    obtain ⟨t, ht, hxt⟩ := c6
    subst hxt
    refine tg_iconst C (nI 0) dX5_textCost_9 10 rfl (by decide) ?_
    refine tg_goto C 14 dX5_textCost_10 (by decide) ?_
    refine tg_put (T := TX5) (N := 13) (Cn := RX5) C tyX5 tyX5_ok nmX5 89 (by decide) (e_89 ad cy _) rfl w1 0 (by decide) w0 rfl rfl (by decide +kernel) (Nat.le_of_ble_eq_true rfl) (e_89 ad cy _) dX5_textCost_14 17 rfl ?_
    refine tg_aload_n C dX5_textCost_17 18 rfl rfl 0 rfl ?_
    refine tg_get (T := TX5) (N := 13) (Cn := RX5) C 89 (by decide) (e_89 ad cy _) rfl w1 0 (by decide) w0 rfl rfl dX5_textCost_18 21 rfl ?_
    refine tg_top (y := nI 0) (su_eq _ _ _ _) ?_
    refine tg_if_le C 28 dX5_textCost_21 (by decide) 24 rfl (fun c21 => ?_) (fun c21 => absurd (by decide) c21)
    refine tg_aload_n C dX5_textCost_28 29 rfl rfl 0 rfl ?_
    refine tg_iload_n C dX5_textCost_29 30 rfl rfl 1 rfl ?_
    have hM1 := hM.th (nI 0)
    refine tg_callVi C 89 (by decide) (e_89 ad cy _) rfl (c_X5_costOfText l D cy ad hDis (su σ 89 0 (nI 0)) hM1 (t := t) (by omega)) (cwV 1 C.2.2.2.2.1 gX5_textCost_X5_costOfText rfl rfl rfl (by decide +kernel) ⟨Nat.le_of_ble_eq_true rfl, Nat.le_of_ble_eq_true rfl⟩) rfl rfl (Nat.le_of_ble_eq_true rfl) ⟨Nat.le_of_ble_eq_true rfl, Nat.le_of_ble_eq_true rfl⟩ dX5_textCost_30 33 rfl (fun r30 τ30 h30 => ?_)
    obtain ⟨h30, h30s⟩ := h30
    subst h30s
    subst h30
    exact hret dX5_textCost_33 (Or.inl ⟨t, ht, rfl, rfl, rfl⟩)
set_option maxHeartbeats 4000000 in
set_option maxRecDepth 100000 in
theorem c_X5_distance (l : Launch) (D : va_G) (cy : Nat → ClassId) (ad : Nat → Nat) (hDis : Dis ad) (σ : sS) {n : Nat} {w : Nat → Nat} {tc mg pr tx nx : Nat} {nm wh wd : Nat → Nat} {kp : Nat → Nat → Nat} (hM : MM σ n w tc mg pr tx nx nm wh wd kp) {x : Int32} : Mi l yX5_distance wsX5_distance 3 78 D cy ad [.ref (ad 89), .int x] σ (fun r τ => (∃ t, t < tc ∧ x = nI t ∧ r = nI (dstN (ownN n w (rc n)) (cntN wh wd kp tx t)) ∧ τ = su σ 89 0 (nI 0)) ∨ (¬ inR x tc ∧ τ = su σ 89 0 (nI 1))) := by
  have w0 : Cond.fieldLink RX5 35 "TonguetellModel" "thrown" "I" ∈ wsX5_distance := by decide +kernel
  have w1 : ∀ w ∈ wsX50, w ∈ wsX5_distance := by decide +kernel
  have hn16 := hM.1.2.1
  have htc5 := hM.2.1.2.2.2.1
  have htx := hM.2.2.2.2.1
  have hrc := rc_le hn16
  have hrn := hM.rn_lt
  have hwd := hM.wd_le
  have hmg := hM.2.1.2.2.2.2.1
  have hpr := hM.2.1.2.2.2.2.2
  have hnx := hM.2.2.2.2.2.1
  refine Mi.of (cc := cX5_distance) (nL := 2) (own := RX5) hDis (by decide) rfl [(0, .ref (ad 89)), (1, .int x)] rfl (Nat.le_of_ble_eq_true rfl) rfl ?_
  intro p e s m args below meth c A Q C hret
  refine tg_aload_n C dX5_distance_0 1 rfl rfl 0 rfl ?_
  refine tg_aload_n C dX5_distance_1 2 rfl rfl 0 rfl ?_
  refine tg_iload_n C dX5_distance_2 3 rfl rfl 1 rfl ?_
  refine tg_callVi C 89 (by decide) (e_89 ad cy _) rfl (c_X5_isTongue l D cy ad hDis σ hM (x := x)) (cwV 1 C.2.2.2.2.1 gX5_distance_X5_isTongue rfl rfl rfl (by decide +kernel) ⟨Nat.le_of_ble_eq_true rfl, Nat.le_of_ble_eq_true rfl⟩) rfl rfl (Nat.le_of_ble_eq_true rfl) ⟨Nat.le_of_ble_eq_true rfl, Nat.le_of_ble_eq_true rfl⟩ dX5_distance_3 6 rfl (fun r3 τ3 h3 => ?_)
  obtain ⟨h3, h3s⟩ := h3
  subst h3s
  subst h3
  refine tg_if_eq C 13 dX5_distance_6 (by decide) 9 rfl (fun c6 => ?_) (fun c6 => ?_)
  · -- to 13
    replace c6 : ¬ inR x tc := (inb_f (by omega)).mp (bI_0.mp c6)
    refine tg_iconst C (nI 1) dX5_distance_13 14 rfl (by decide) ?_
    refine tg_put (T := TX5) (N := 13) (Cn := RX5) C tyX5 tyX5_ok nmX5 89 (by decide) (e_89 ad cy _) rfl w1 0 (by decide) w0 rfl rfl (by decide +kernel) (Nat.le_of_ble_eq_true rfl) (e_89 ad cy _) dX5_distance_14 17 rfl ?_
    refine tg_aload_n C dX5_distance_17 18 rfl rfl 0 rfl ?_
    refine tg_get (T := TX5) (N := 13) (Cn := RX5) C 89 (by decide) (e_89 ad cy _) rfl w1 0 (by decide) w0 rfl rfl dX5_distance_18 21 rfl ?_
    refine tg_top (y := nI 1) (su_eq _ _ _ _) ?_
    refine tg_if_le C 28 dX5_distance_21 (by decide) 24 rfl (fun c21 => absurd c21 (by decide)) (fun c21 => ?_)
    refine tg_iconst C (nI 0) dX5_distance_24 25 rfl (by decide) ?_
    refine tg_goto C 33 dX5_distance_25 (by decide) ?_
    exact hret dX5_distance_33 (Or.inr ⟨c6, rfl⟩)
  · -- on
    replace c6 : inR x tc := (inb_t (by omega)).mp (bI_n.mp c6)
    obtain ⟨t, ht, hxt⟩ := c6
    subst hxt
    refine tg_iconst C (nI 0) dX5_distance_9 10 rfl (by decide) ?_
    refine tg_goto C 14 dX5_distance_10 (by decide) ?_
    refine tg_put (T := TX5) (N := 13) (Cn := RX5) C tyX5 tyX5_ok nmX5 89 (by decide) (e_89 ad cy _) rfl w1 0 (by decide) w0 rfl rfl (by decide +kernel) (Nat.le_of_ble_eq_true rfl) (e_89 ad cy _) dX5_distance_14 17 rfl ?_
    refine tg_aload_n C dX5_distance_17 18 rfl rfl 0 rfl ?_
    refine tg_get (T := TX5) (N := 13) (Cn := RX5) C 89 (by decide) (e_89 ad cy _) rfl w1 0 (by decide) w0 rfl rfl dX5_distance_18 21 rfl ?_
    refine tg_top (y := nI 0) (su_eq _ _ _ _) ?_
    refine tg_if_le C 28 dX5_distance_21 (by decide) 24 rfl (fun c21 => ?_) (fun c21 => absurd (by decide) c21)
    refine tg_aload_n C dX5_distance_28 29 rfl rfl 0 rfl ?_
    refine tg_iload_n C dX5_distance_29 30 rfl rfl 1 rfl ?_
    have hM1 := hM.th (nI 0)
    refine tg_callVi C 89 (by decide) (e_89 ad cy _) rfl (c_X5_distanceOf l D cy ad hDis (su σ 89 0 (nI 0)) hM1 (t := t) (by omega)) (cwV 1 C.2.2.2.2.1 gX5_distance_X5_distanceOf rfl rfl rfl (by decide +kernel) ⟨Nat.le_of_ble_eq_true rfl, Nat.le_of_ble_eq_true rfl⟩) rfl rfl (Nat.le_of_ble_eq_true rfl) ⟨Nat.le_of_ble_eq_true rfl, Nat.le_of_ble_eq_true rfl⟩ dX5_distance_30 33 rfl (fun r30 τ30 h30 => ?_)
    obtain ⟨h30, h30s⟩ := h30
    subst h30s
    subst h30
    exact hret dX5_distance_33 (Or.inl ⟨t, ht, rfl, rfl, rfl⟩)
set_option maxHeartbeats 4000000 in
set_option maxRecDepth 100000 in
theorem c_X5_setMargin (l : Launch) (D : va_G) (cy : Nat → ClassId) (ad : Nat → Nat) (hDis : Dis ad) (σ : sS) {n : Nat} {w : Nat → Nat} {tc mg pr tx nx : Nat} {nm wh wd : Nat → Nat} {kp : Nat → Nat → Nat} (hM : MM σ n w tc mg pr tx nx nm wh wd kp) {x : Int32} : Mi l yX5_setMargin wsX5_setMargin 1 22 D cy ad [.ref (ad 89), .int x] σ (fun r τ => (inR x 101 ∧ r = nI mg ∧ τ = su (su σ 89 0 (nI 0)) 89 4 x) ∨ (¬ inR x 101 ∧ τ = su σ 89 0 (nI 1))) := by
  have w0 : Cond.fieldLink RX5 35 "TonguetellModel" "thrown" "I" ∈ wsX5_setMargin := by decide +kernel
  have w1 : ∀ w ∈ wsX50, w ∈ wsX5_setMargin := by decide +kernel
  have w2 : Cond.fieldLink RX5 13 "TonguetellModel" "margin" "I" ∈ wsX5_setMargin := by decide +kernel
  have hn16 := hM.1.2.1
  have htc5 := hM.2.1.2.2.2.1
  have htx := hM.2.2.2.2.1
  have hrc := rc_le hn16
  have hrn := hM.rn_lt
  have hwd := hM.wd_le
  have hmg := hM.2.1.2.2.2.2.1
  have hpr := hM.2.1.2.2.2.2.2
  have hnx := hM.2.2.2.2.2.1
  refine Mi.of (cc := cX5_setMargin) (nL := 3) (own := RX5) hDis (by decide) rfl [(0, .ref (ad 89)), (1, .int x)] rfl (Nat.le_of_ble_eq_true rfl) rfl ?_
  intro p e s m args below meth c A Q C hret
  refine tg_aload_n C dX5_setMargin_0 1 rfl rfl 0 rfl ?_
  refine tg_iload_n C dX5_setMargin_1 2 rfl rfl 1 rfl ?_
  refine tg_iconst C (nI 0) dX5_setMargin_2 3 rfl (by decide) ?_
  refine tg_bipush C (nI 100) dX5_setMargin_3 5 rfl (by decide) ?_
  refine tg_callSi C (c_X5_in l D cy ad hDis σ (x := x) (y := nI 0) (z := bv 101)) (cwS 3 C.2.2.2.2.1 gX5_setMargin_X5_in rfl rfl rfl (by decide +kernel) ⟨Nat.le_of_ble_eq_true rfl, Nat.le_of_ble_eq_true rfl⟩) rfl rfl (Nat.le_of_ble_eq_true rfl) ⟨Nat.le_of_ble_eq_true rfl, Nat.le_of_ble_eq_true rfl⟩ dX5_setMargin_5 8 rfl (fun r5 τ5 h5 => ?_)
  obtain ⟨h5, h5s⟩ := h5
  subst h5s
  subst h5
  refine tg_if_eq C 15 dX5_setMargin_8 (by decide) 11 rfl (fun c8 => ?_) (fun c8 => ?_)
  · -- to 15
    replace c8 : ¬ inR x 101 := (inb_f (by omega)).mp (bI_0.mp c8)
    refine tg_iconst C (nI 1) dX5_setMargin_15 16 rfl (by decide) ?_
    refine tg_put (T := TX5) (N := 13) (Cn := RX5) C tyX5 tyX5_ok nmX5 89 (by decide) (e_89 ad cy _) rfl w1 0 (by decide) w0 rfl rfl (by decide +kernel) (Nat.le_of_ble_eq_true rfl) (e_89 ad cy _) dX5_setMargin_16 19 rfl ?_
    refine tg_aload_n C dX5_setMargin_19 20 rfl rfl 0 rfl ?_
    refine tg_get (T := TX5) (N := 13) (Cn := RX5) C 89 (by decide) (e_89 ad cy _) rfl w1 0 (by decide) w0 rfl rfl dX5_setMargin_20 23 rfl ?_
    refine tg_top (y := nI 1) (su_eq _ _ _ _) ?_
    refine tg_if_le C 28 dX5_setMargin_23 (by decide) 26 rfl (fun c23 => absurd c23 (by decide)) (fun c23 => ?_)
    refine tg_iconst C (nI 0) dX5_setMargin_26 27 rfl (by decide) ?_
    exact hret dX5_setMargin_27 (Or.inr ⟨c8, rfl⟩)
  · -- on
    replace c8 : inR x 101 := (inb_t (by omega)).mp (bI_n.mp c8)
    refine tg_iconst C (nI 0) dX5_setMargin_11 12 rfl (by decide) ?_
    refine tg_goto C 16 dX5_setMargin_12 (by decide) ?_
    refine tg_put (T := TX5) (N := 13) (Cn := RX5) C tyX5 tyX5_ok nmX5 89 (by decide) (e_89 ad cy _) rfl w1 0 (by decide) w0 rfl rfl (by decide +kernel) (Nat.le_of_ble_eq_true rfl) (e_89 ad cy _) dX5_setMargin_16 19 rfl ?_
    refine tg_aload_n C dX5_setMargin_19 20 rfl rfl 0 rfl ?_
    refine tg_get (T := TX5) (N := 13) (Cn := RX5) C 89 (by decide) (e_89 ad cy _) rfl w1 0 (by decide) w0 rfl rfl dX5_setMargin_20 23 rfl ?_
    refine tg_top (y := nI 0) (su_eq _ _ _ _) ?_
    refine tg_if_le C 28 dX5_setMargin_23 (by decide) 26 rfl (fun c23 => ?_) (fun c23 => absurd (by decide) c23)
    refine tg_aload_n C dX5_setMargin_28 29 rfl rfl 0 rfl ?_
    refine tg_get (T := TX5) (N := 13) (Cn := RX5) C 89 (by decide) (e_89 ad cy _) rfl w1 4 (by decide) w2 rfl rfl dX5_setMargin_29 32 rfl ?_
    refine tg_top (y := nI mg) ((hM.th (nI 0)).2.1.2.1) ?_
    refine tg_istore_n C dX5_setMargin_32 33 rfl rfl [(2, .int (nI mg)), (0, .ref (ad 89)), (1, .int x)] (by decide) rfl ?_
    refine tg_aload_n C dX5_setMargin_33 34 rfl rfl 1 rfl ?_
    refine tg_iload_n C dX5_setMargin_34 35 rfl rfl 2 rfl ?_
    refine tg_put (T := TX5) (N := 13) (Cn := RX5) C tyX5 tyX5_ok nmX5 89 (by decide) (e_89 ad cy _) rfl w1 4 (by decide) w2 rfl rfl (by decide +kernel) (Nat.le_of_ble_eq_true rfl) (e_89 ad cy _) dX5_setMargin_35 38 rfl ?_
    refine tg_iload_n C dX5_setMargin_38 39 rfl rfl 0 rfl ?_
    exact hret dX5_setMargin_39 (Or.inl ⟨c8, rfl, rfl⟩)
set_option maxHeartbeats 4000000 in
set_option maxRecDepth 100000 in
theorem c_X5_setPrice (l : Launch) (D : va_G) (cy : Nat → ClassId) (ad : Nat → Nat) (hDis : Dis ad) (σ : sS) {n : Nat} {w : Nat → Nat} {tc mg pr tx nx : Nat} {nm wh wd : Nat → Nat} {kp : Nat → Nat → Nat} (hM : MM σ n w tc mg pr tx nx nm wh wd kp) {x : Int32} : Mi l yX5_setPrice wsX5_setPrice 1 22 D cy ad [.ref (ad 89), .int x] σ (fun r τ => (inR x 101 ∧ r = nI pr ∧ τ = su (su σ 89 0 (nI 0)) 89 5 x) ∨ (¬ inR x 101 ∧ τ = su σ 89 0 (nI 1))) := by
  have w0 : Cond.fieldLink RX5 35 "TonguetellModel" "thrown" "I" ∈ wsX5_setPrice := by decide +kernel
  have w1 : ∀ w ∈ wsX50, w ∈ wsX5_setPrice := by decide +kernel
  have w2 : Cond.fieldLink RX5 17 "TonguetellModel" "price" "I" ∈ wsX5_setPrice := by decide +kernel
  have hn16 := hM.1.2.1
  have htc5 := hM.2.1.2.2.2.1
  have htx := hM.2.2.2.2.1
  have hrc := rc_le hn16
  have hrn := hM.rn_lt
  have hwd := hM.wd_le
  have hmg := hM.2.1.2.2.2.2.1
  have hpr := hM.2.1.2.2.2.2.2
  have hnx := hM.2.2.2.2.2.1
  refine Mi.of (cc := cX5_setPrice) (nL := 3) (own := RX5) hDis (by decide) rfl [(0, .ref (ad 89)), (1, .int x)] rfl (Nat.le_of_ble_eq_true rfl) rfl ?_
  intro p e s m args below meth c A Q C hret
  refine tg_aload_n C dX5_setPrice_0 1 rfl rfl 0 rfl ?_
  refine tg_iload_n C dX5_setPrice_1 2 rfl rfl 1 rfl ?_
  refine tg_iconst C (nI 0) dX5_setPrice_2 3 rfl (by decide) ?_
  refine tg_bipush C (nI 100) dX5_setPrice_3 5 rfl (by decide) ?_
  refine tg_callSi C (c_X5_in l D cy ad hDis σ (x := x) (y := nI 0) (z := bv 101)) (cwS 3 C.2.2.2.2.1 gX5_setPrice_X5_in rfl rfl rfl (by decide +kernel) ⟨Nat.le_of_ble_eq_true rfl, Nat.le_of_ble_eq_true rfl⟩) rfl rfl (Nat.le_of_ble_eq_true rfl) ⟨Nat.le_of_ble_eq_true rfl, Nat.le_of_ble_eq_true rfl⟩ dX5_setPrice_5 8 rfl (fun r5 τ5 h5 => ?_)
  obtain ⟨h5, h5s⟩ := h5
  subst h5s
  subst h5
  refine tg_if_eq C 15 dX5_setPrice_8 (by decide) 11 rfl (fun c8 => ?_) (fun c8 => ?_)
  · -- to 15
    replace c8 : ¬ inR x 101 := (inb_f (by omega)).mp (bI_0.mp c8)
    refine tg_iconst C (nI 1) dX5_setPrice_15 16 rfl (by decide) ?_
    refine tg_put (T := TX5) (N := 13) (Cn := RX5) C tyX5 tyX5_ok nmX5 89 (by decide) (e_89 ad cy _) rfl w1 0 (by decide) w0 rfl rfl (by decide +kernel) (Nat.le_of_ble_eq_true rfl) (e_89 ad cy _) dX5_setPrice_16 19 rfl ?_
    refine tg_aload_n C dX5_setPrice_19 20 rfl rfl 0 rfl ?_
    refine tg_get (T := TX5) (N := 13) (Cn := RX5) C 89 (by decide) (e_89 ad cy _) rfl w1 0 (by decide) w0 rfl rfl dX5_setPrice_20 23 rfl ?_
    refine tg_top (y := nI 1) (su_eq _ _ _ _) ?_
    refine tg_if_le C 28 dX5_setPrice_23 (by decide) 26 rfl (fun c23 => absurd c23 (by decide)) (fun c23 => ?_)
    refine tg_iconst C (nI 0) dX5_setPrice_26 27 rfl (by decide) ?_
    exact hret dX5_setPrice_27 (Or.inr ⟨c8, rfl⟩)
  · -- on
    replace c8 : inR x 101 := (inb_t (by omega)).mp (bI_n.mp c8)
    refine tg_iconst C (nI 0) dX5_setPrice_11 12 rfl (by decide) ?_
    refine tg_goto C 16 dX5_setPrice_12 (by decide) ?_
    refine tg_put (T := TX5) (N := 13) (Cn := RX5) C tyX5 tyX5_ok nmX5 89 (by decide) (e_89 ad cy _) rfl w1 0 (by decide) w0 rfl rfl (by decide +kernel) (Nat.le_of_ble_eq_true rfl) (e_89 ad cy _) dX5_setPrice_16 19 rfl ?_
    refine tg_aload_n C dX5_setPrice_19 20 rfl rfl 0 rfl ?_
    refine tg_get (T := TX5) (N := 13) (Cn := RX5) C 89 (by decide) (e_89 ad cy _) rfl w1 0 (by decide) w0 rfl rfl dX5_setPrice_20 23 rfl ?_
    refine tg_top (y := nI 0) (su_eq _ _ _ _) ?_
    refine tg_if_le C 28 dX5_setPrice_23 (by decide) 26 rfl (fun c23 => ?_) (fun c23 => absurd (by decide) c23)
    refine tg_aload_n C dX5_setPrice_28 29 rfl rfl 0 rfl ?_
    refine tg_get (T := TX5) (N := 13) (Cn := RX5) C 89 (by decide) (e_89 ad cy _) rfl w1 5 (by decide) w2 rfl rfl dX5_setPrice_29 32 rfl ?_
    refine tg_top (y := nI pr) ((hM.th (nI 0)).2.1.2.2.1) ?_
    refine tg_istore_n C dX5_setPrice_32 33 rfl rfl [(2, .int (nI pr)), (0, .ref (ad 89)), (1, .int x)] (by decide) rfl ?_
    refine tg_aload_n C dX5_setPrice_33 34 rfl rfl 1 rfl ?_
    refine tg_iload_n C dX5_setPrice_34 35 rfl rfl 2 rfl ?_
    refine tg_put (T := TX5) (N := 13) (Cn := RX5) C tyX5 tyX5_ok nmX5 89 (by decide) (e_89 ad cy _) rfl w1 5 (by decide) w2 rfl rfl (by decide +kernel) (Nat.le_of_ble_eq_true rfl) (e_89 ad cy _) dX5_setPrice_35 38 rfl ?_
    refine tg_iload_n C dX5_setPrice_38 39 rfl rfl 0 rfl ?_
    exact hret dX5_setPrice_39 (Or.inl ⟨c8, rfl, rfl⟩)
set_option maxHeartbeats 4000000 in
set_option maxRecDepth 100000 in
theorem c_X5_tell (l : Launch) (D : va_G) (cy : Nat → ClassId) (ad : Nat → Nat) (hDis : Dis ad) (σ : sS) {n : Nat} {w : Nat → Nat} {tc mg pr tx nx : Nat} {nm wh wd : Nat → Nat} {kp : Nat → Nat → Nat} (hM : MM σ n w tc mg pr tx nx nm wh wd kp) : Mi l yX5_tell wsX5_tell 3 73 D cy ad [.ref (ad 89)] σ (fun r τ => r = tlI n tc mg (fun u => ctxN n w (cntN wh wd kp tx u) (totN wh wd tx u)) ∧ τ = su σ 89 0 (nI 0)) := by
  have w0 : Cond.fieldLink RX5 35 "TonguetellModel" "thrown" "I" ∈ wsX5_tell := by decide +kernel
  have w1 : ∀ w ∈ wsX50, w ∈ wsX5_tell := by decide +kernel
  have w2 : Cond.fieldLink RX5 38 "TonguetellModel" "tongueMany" "I" ∈ wsX5_tell := by decide +kernel
  have w3 : Cond.fieldLink RX5 45 "TonguetellModel" "letters" "I" ∈ wsX5_tell := by decide +kernel
  have w4 : Cond.fieldLink RX5 13 "TonguetellModel" "margin" "I" ∈ wsX5_tell := by decide +kernel
  have hn16 := hM.1.2.1
  have htc5 := hM.2.1.2.2.2.1
  have htx := hM.2.2.2.2.1
  have hrc := rc_le hn16
  have hrn := hM.rn_lt
  have hwd := hM.wd_le
  have hmg := hM.2.1.2.2.2.2.1
  have hpr := hM.2.1.2.2.2.2.2
  have hnx := hM.2.2.2.2.2.1
  have hcl : ∀ u, ctxN n w (cntN wh wd kp tx u) (totN wh wd tx u) ≤ 170 := fun u => ctxN_le hn16 w _ _
  refine Mi.of (cc := cX5_tell) (nL := 4) (own := RX5) hDis (by decide) rfl [(0, .ref (ad 89))] rfl (Nat.le_of_ble_eq_true rfl) rfl ?_
  intro p e s m args below meth c A Q C hret
  refine tg_aload_n C dX5_tell_0 1 rfl rfl 0 rfl ?_
  refine tg_iconst C (nI 0) dX5_tell_1 2 rfl (by decide) ?_
  refine tg_put (T := TX5) (N := 13) (Cn := RX5) C tyX5 tyX5_ok nmX5 89 (by decide) (e_89 ad cy _) rfl w1 0 (by decide) w0 rfl rfl (by decide +kernel) (Nat.le_of_ble_eq_true rfl) (e_89 ad cy _) dX5_tell_2 5 rfl ?_
  obtain ⟨σ1, hσ1⟩ : ∃ z : sS, z = su σ 89 0 (nI 0) := ⟨_, rfl⟩
  rw [← hσ1]
  have hM1 : MM σ1 n w tc mg pr tx nx nm wh wd kp := by rw [hσ1]; exact hM.th _
  refine tg_iconst C (-1) dX5_tell_5 6 rfl (by decide) ?_
  refine tg_istore_n C dX5_tell_6 7 rfl rfl [(1, .int ((-1))), (0, .ref (ad 89))] (by decide) rfl ?_
  refine tg_aload_n C dX5_tell_7 8 rfl rfl 1 rfl ?_
  refine tg_get (T := TX5) (N := 13) (Cn := RX5) C 89 (by decide) (e_89 ad cy _) rfl w1 3 (by decide) w2 rfl rfl dX5_tell_8 11 rfl ?_
  refine tg_top (y := nI tc) (hM1.2.1.1) ?_
  refine tg_iconst C (nI 1) dX5_tell_11 12 rfl (by decide) ?_
  refine tg_isub C (bv tc) dX5_tell_12 13 rfl (bv_pred tc) ?_
  refine tg_istore_n C dX5_tell_13 14 rfl rfl [(2, .int (bv tc)), (1, .int ((-1))), (0, .ref (ad 89))] (by decide) rfl ?_
  have L14 : ∀ (n14 : Nat) (q e9 : Nat), (q ≤ tc ∧ e9 ≤ tc ∧ bst (fun u => ctxN n w (cntN wh wd kp tx u) (totN wh wd tx u)) tc q e9) → q < n14 → TT p l e (Rm 3 73) s m args below meth c D cy ad A 4 0 0 Q σ1 14 [(0, .ref (ad 89)), (1, .int (bv e9)), (2, .int (bv q))] [] := by
    intro n14
    induction n14 with
    | zero => intro q e9 _ hn14; exact absurd hn14 (Nat.not_lt_zero _)
    | succ n14 ih14 =>
      intro q e9 ⟨hq, he, hb⟩ hn14
      refine tg_iload_n C dX5_tell_14 15 rfl rfl 2 rfl ?_
      refine tg_if_lt C 48 dX5_tell_15 (by decide) 18 rfl (fun c15 => ?_) (fun c15 => ?_)
      · -- to 48
        replace c15 := (bv_lt (by omega)).mp c15
        subst c15
        replace hb := bst_end hb
        refine tg_aload_n C dX5_tell_48 49 rfl rfl 0 rfl ?_
        refine tg_get (T := TX5) (N := 13) (Cn := RX5) C 89 (by decide) (e_89 ad cy _) rfl w1 2 (by decide) w3 rfl rfl dX5_tell_49 52 rfl ?_
        refine tg_top (y := nI n) (hM1.1.1) ?_
        refine tg_iconst C (nI 4) dX5_tell_52 53 rfl (by decide) ?_
        refine tg_icmp_lt C 60 dX5_tell_53 (by decide) 56 rfl (fun c53 => ?_) (fun c53 => ?_)
        · -- to 60
          replace c53 : n < 4 := (nI_ltI (by omega) (by omega)).mp c53
          refine tg_iconst C (nI 0) dX5_tell_60 61 rfl (by decide) ?_
          refine tg_istore_n C dX5_tell_61 62 rfl rfl [(2, .int (nI 0)), (0, .ref (ad 89)), (1, .int (bv e9))] (by decide) rfl ?_
          refine tg_iconst C (nI 0) dX5_tell_62 63 rfl (by decide) ?_
          refine tg_istore_n C dX5_tell_63 64 rfl rfl [(3, .int (nI 0)), (2, .int (nI 0)), (0, .ref (ad 89)), (1, .int (bv e9))] (by decide) rfl ?_
          have L64 : ∀ (n64 : Nat) (t : Nat) (s9 : Bool), (t ≤ tc ∧ s9 = (decide (4 ≤ n) && sureb (fun u => ctxN n w (cntN wh wd kp tx u) (totN wh wd tx u)) (amin (fun u => ctxN n w (cntN wh wd kp tx u) (totN wh wd tx u)) tc) ((fun u => ctxN n w (cntN wh wd kp tx u) (totN wh wd tx u)) (amin (fun u => ctxN n w (cntN wh wd kp tx u) (totN wh wd tx u)) tc) + mg) t)) → tc - t < n64 → TT p l e (Rm 3 73) s m args below meth c D cy ad A 4 0 0 Q σ1 64 [(0, .ref (ad 89)), (1, .int (bv e9)), (2, .int (bI s9)), (3, .int (nI t))] [] := by
            intro n64
            induction n64 with
            | zero => intro t s9 _ hn64; exact absurd hn64 (Nat.not_lt_zero _)
            | succ n64 ih64 =>
              intro t s9 ⟨ht, hs⟩ hn64
              refine tg_iload_n C dX5_tell_64 65 rfl rfl 3 rfl ?_
              refine tg_aload_n C dX5_tell_65 66 rfl rfl 0 rfl ?_
              refine tg_get (T := TX5) (N := 13) (Cn := RX5) C 89 (by decide) (e_89 ad cy _) rfl w1 3 (by decide) w2 rfl rfl dX5_tell_66 69 rfl ?_
              refine tg_top (y := nI tc) (hM1.2.1.1) ?_
              refine tg_icmp_ge C 111 dX5_tell_69 (by decide) 72 rfl (fun c69 => ?_) (fun c69 => ?_)
              · -- to 111
                replace c69 : tc ≤ t := (nI_leI (by omega) (by omega)).mp c69
                refine tg_iload_n C dX5_tell_111 112 rfl rfl 2 rfl ?_
                refine tg_if_eq C 119 dX5_tell_112 (by decide) 115 rfl (fun c112 => ?_) (fun c112 => ?_)
                · -- to 119
                  replace c112 := bI_0.mp c112
                  refine tg_iconst C (-1) dX5_tell_119 120 rfl (by decide) ?_
                  exact hret dX5_tell_120 ⟨by
                      have htt : t = tc := by omega
                      subst htt
                      unfold tlI
                      rcases hb with ⟨h1, h2⟩ | ⟨h1, h2⟩
                      · rw [if_pos (Or.inr h1)]; try (first | rfl | (rw [h2]; rfl))
                      · by_cases h4 : n < 4
                        · rw [decide_eq_false (by omega)] at hs
                          rw [if_pos (Or.inl h4)]
                          try (first | rfl | (rw [hs] at c112; cases c112))
                        · rw [decide_eq_true (by omega), Bool.true_and] at hs
                          rw [if_neg (by omega), ← hs, c112]
                          first | rfl | (rw [h2]; rfl), hσ1⟩
                · -- on
                  replace c112 := bI_n.mp c112
                  refine tg_iload_n C dX5_tell_115 116 rfl rfl 1 rfl ?_
                  refine tg_goto C 120 dX5_tell_116 (by decide) ?_
                  exact hret dX5_tell_120 ⟨by
                      have htt : t = tc := by omega
                      subst htt
                      unfold tlI
                      rcases hb with ⟨h1, h2⟩ | ⟨h1, h2⟩
                      · rw [if_pos (Or.inr h1)]; try (first | rfl | (rw [h2]; rfl))
                      · by_cases h4 : n < 4
                        · rw [decide_eq_false (by omega)] at hs
                          rw [if_pos (Or.inl h4)]
                          try (first | rfl | (rw [hs] at c112; cases c112))
                        · rw [decide_eq_true (by omega), Bool.true_and] at hs
                          rw [if_neg (by omega), ← hs, c112]
                          first | rfl | (rw [h2]; rfl), hσ1⟩
              · -- on
                replace c69 : ¬ tc ≤ t := fun q => c69 ((nI_leI (by omega) (by omega)).mpr q)
                refine tg_iload_n C dX5_tell_72 73 rfl rfl 2 rfl ?_
                refine tg_if_eq C 103 dX5_tell_73 (by decide) 76 rfl (fun c73 => ?_) (fun c73 => ?_)
                · -- to 103
                  replace c73 := bI_0.mp c73
                  refine tg_iconst C (nI 0) dX5_tell_103 104 rfl (by decide) ?_
                  refine tg_istore_n C dX5_tell_104 105 rfl rfl [(2, .int (nI 0)), (0, .ref (ad 89)), (1, .int (bv e9)), (3, .int (nI t))] (by decide) rfl ?_
                  refine tg_iinc C (nI (t + 1)) dX5_tell_105 108 rfl 3 rfl (nI_add t 1) [(3, .int (nI (t + 1))), (2, .int (nI 0)), (0, .ref (ad 89)), (1, .int (bv e9))] (by decide) rfl ?_
                  refine tg_goto C 64 dX5_tell_108 (by decide) ?_
                  refine tg_sub [2, 3, 1, 0] rfl ?_
                  exact ih64 (t + 1) false ⟨by omega, by rw [sureb]; first | (rw [c73] at hs; rw [← Bool.and_assoc, ← hs]; rfl) | (rw [c73] at hs; rw [← Bool.and_assoc, ← hs]; simp only [Bool.true_and]; first | (rw [decide_eq_true (by omega)]; rfl) | (rw [decide_eq_false (by omega), decide_eq_false (by show ¬ ctxN _ _ _ _ + mg ≤ ctxN _ _ _ _; omega)]; rfl) | (rw [decide_eq_true (p := _ ≤ _) (by show ctxN _ _ _ _ + mg ≤ ctxN _ _ _ _; omega), Bool.or_true]))⟩ (by omega)
                · -- on
                  replace c73 := bI_n.mp c73
                  obtain rfl : e9 = amin (fun u => ctxN n w (cntN wh wd kp tx u) (totN wh wd tx u)) tc + 1 := by rcases hb with hb | hb; omega; exact hb.2
                  have ham := amin_lt (fun u => ctxN n w (cntN wh wd kp tx u) (totN wh wd tx u)) tc (by omega)
                  refine tg_sub (lv' := [(0, .ref (ad 89)), (1, .int (nI (amin (fun u => ctxN n w (cntN wh wd kp tx u) (totN wh wd tx u)) tc))), (2, .int (bI s9)), (3, .int (nI t))]) [0, 1, 2, 3] rfl ?_
                  refine tg_iload_n C dX5_tell_76 77 rfl rfl 3 rfl ?_
                  refine tg_iload_n C dX5_tell_77 78 rfl rfl 1 rfl ?_
                  refine tg_icmp_eq C 99 dX5_tell_78 (by decide) 81 rfl (fun c78 => ?_) (fun c78 => ?_)
                  · -- to 99
                    replace c78 : t = (amin (fun u => ctxN n w (cntN wh wd kp tx u) (totN wh wd tx u)) tc) := (nI_eq (by omega) (by omega)).mp c78
                    refine tg_iconst C (nI 1) dX5_tell_99 100 rfl (by decide) ?_
                    refine tg_goto C 104 dX5_tell_100 (by decide) ?_
                    refine tg_istore_n C dX5_tell_104 105 rfl rfl [(2, .int (nI 1)), (0, .ref (ad 89)), (1, .int (nI (amin (fun u => ctxN n w (cntN wh wd kp tx u) (totN wh wd tx u)) tc))), (3, .int (nI t))] (by decide) rfl ?_
                    refine tg_iinc C (nI (t + 1)) dX5_tell_105 108 rfl 3 rfl (nI_add t 1) [(3, .int (nI (t + 1))), (2, .int (nI 1)), (0, .ref (ad 89)), (1, .int (nI (amin (fun u => ctxN n w (cntN wh wd kp tx u) (totN wh wd tx u)) tc)))] (by decide) rfl ?_
                    refine tg_goto C 64 dX5_tell_108 (by decide) ?_
                    refine tg_sub [2, 3, 1, 0] rfl ?_
                    exact ih64 (t + 1) true ⟨by omega, by rw [sureb]; first | (rw [c73] at hs; rw [← Bool.and_assoc, ← hs]; rfl) | (rw [c73] at hs; rw [← Bool.and_assoc, ← hs]; simp only [Bool.true_and]; first | (rw [decide_eq_true (by omega)]; rfl) | (rw [decide_eq_false (by omega), decide_eq_false (by show ¬ ctxN _ _ _ _ + mg ≤ ctxN _ _ _ _; omega)]; rfl) | (rw [decide_eq_true (p := _ ≤ _) (by show ctxN _ _ _ _ + mg ≤ ctxN _ _ _ _; omega), Bool.or_true]))⟩ (by omega)
                  · -- on
                    replace c78 : ¬ t = (amin (fun u => ctxN n w (cntN wh wd kp tx u) (totN wh wd tx u)) tc) := fun q => c78 ((nI_eq (by omega) (by omega)).mpr q)
                    refine tg_aload_n C dX5_tell_81 82 rfl rfl 0 rfl ?_
                    refine tg_iload_n C dX5_tell_82 83 rfl rfl 3 rfl ?_
                    refine tg_callVi C 89 (by decide) (e_89 ad cy _) rfl (c_X5_costOfText l D cy ad hDis σ1 hM1 (t := t) (by omega)) (cwV 1 C.2.2.2.2.1 gX5_tell_X5_costOfText rfl rfl rfl (by decide +kernel) ⟨Nat.le_of_ble_eq_true rfl, Nat.le_of_ble_eq_true rfl⟩) rfl rfl (Nat.le_of_ble_eq_true rfl) ⟨Nat.le_of_ble_eq_true rfl, Nat.le_of_ble_eq_true rfl⟩ dX5_tell_83 86 rfl (fun r83 τ83 h83 => ?_)
                    obtain ⟨h83, h83s⟩ := h83
                    subst h83s
                    subst h83
                    refine tg_aload_n C dX5_tell_86 87 rfl rfl 0 rfl ?_
                    refine tg_iload_n C dX5_tell_87 88 rfl rfl 1 rfl ?_
                    refine tg_callVi C 89 (by decide) (e_89 ad cy _) rfl (c_X5_costOfText l D cy ad hDis σ1 hM1 (t := amin (fun u => ctxN n w (cntN wh wd kp tx u) (totN wh wd tx u)) tc) (by omega)) (cwV 1 C.2.2.2.2.1 gX5_tell_X5_costOfText rfl rfl rfl (by decide +kernel) ⟨Nat.le_of_ble_eq_true rfl, Nat.le_of_ble_eq_true rfl⟩) rfl rfl (Nat.le_of_ble_eq_true rfl) ⟨Nat.le_of_ble_eq_true rfl, Nat.le_of_ble_eq_true rfl⟩ dX5_tell_88 91 rfl (fun r88 τ88 h88 => ?_)
                    obtain ⟨h88, h88s⟩ := h88
                    subst h88s
                    subst h88
                    refine tg_aload_n C dX5_tell_91 92 rfl rfl 0 rfl ?_
                    refine tg_get (T := TX5) (N := 13) (Cn := RX5) C 89 (by decide) (e_89 ad cy _) rfl w1 4 (by decide) w4 rfl rfl dX5_tell_92 95 rfl ?_
                    refine tg_top (y := nI mg) (hM1.2.1.2.1) ?_
                    refine tg_iadd C (nI ((ctxN n w (cntN wh wd kp tx (amin (fun u => ctxN n w (cntN wh wd kp tx u) (totN wh wd tx u)) tc)) (totN wh wd tx (amin (fun u => ctxN n w (cntN wh wd kp tx u) (totN wh wd tx u)) tc))) + mg)) dX5_tell_95 96 rfl (nI_add (ctxN n w (cntN wh wd kp tx (amin (fun u => ctxN n w (cntN wh wd kp tx u) (totN wh wd tx u)) tc)) (totN wh wd tx (amin (fun u => ctxN n w (cntN wh wd kp tx u) (totN wh wd tx u)) tc))) mg) ?_
                    have hct := hcl t
                    have hca := hcl (amin (fun u => ctxN n w (cntN wh wd kp tx u) (totN wh wd tx u)) tc)
                    refine tg_icmp_lt C 103 dX5_tell_96 (by decide) 99 rfl (fun c96 => ?_) (fun c96 => ?_)
                    · -- to 103
                      replace c96 : (ctxN n w (cntN wh wd kp tx t) (totN wh wd tx t)) < ((ctxN n w (cntN wh wd kp tx (amin (fun u => ctxN n w (cntN wh wd kp tx u) (totN wh wd tx u)) tc)) (totN wh wd tx (amin (fun u => ctxN n w (cntN wh wd kp tx u) (totN wh wd tx u)) tc))) + mg) := (nI_ltI (by omega) (by omega)).mp c96
                      refine tg_iconst C (nI 0) dX5_tell_103 104 rfl (by decide) ?_
                      refine tg_istore_n C dX5_tell_104 105 rfl rfl [(2, .int (nI 0)), (0, .ref (ad 89)), (1, .int (nI (amin (fun u => ctxN n w (cntN wh wd kp tx u) (totN wh wd tx u)) tc))), (3, .int (nI t))] (by decide) rfl ?_
                      refine tg_iinc C (nI (t + 1)) dX5_tell_105 108 rfl 3 rfl (nI_add t 1) [(3, .int (nI (t + 1))), (2, .int (nI 0)), (0, .ref (ad 89)), (1, .int (nI (amin (fun u => ctxN n w (cntN wh wd kp tx u) (totN wh wd tx u)) tc)))] (by decide) rfl ?_
                      refine tg_goto C 64 dX5_tell_108 (by decide) ?_
                      refine tg_sub [2, 3, 1, 0] rfl ?_
                      exact ih64 (t + 1) false ⟨by omega, by rw [sureb]; first | (rw [c73] at hs; rw [← Bool.and_assoc, ← hs]; rfl) | (rw [c73] at hs; rw [← Bool.and_assoc, ← hs]; simp only [Bool.true_and]; first | (rw [decide_eq_true (by omega)]; rfl) | (rw [decide_eq_false (by omega), decide_eq_false (by show ¬ ctxN _ _ _ _ + mg ≤ ctxN _ _ _ _; omega)]; rfl) | (rw [decide_eq_true (p := _ ≤ _) (by show ctxN _ _ _ _ + mg ≤ ctxN _ _ _ _; omega), Bool.or_true]))⟩ (by omega)
                    · -- on
                      replace c96 : ¬ (ctxN n w (cntN wh wd kp tx t) (totN wh wd tx t)) < ((ctxN n w (cntN wh wd kp tx (amin (fun u => ctxN n w (cntN wh wd kp tx u) (totN wh wd tx u)) tc)) (totN wh wd tx (amin (fun u => ctxN n w (cntN wh wd kp tx u) (totN wh wd tx u)) tc))) + mg) := fun q => c96 ((nI_ltI (by omega) (by omega)).mpr q)
                      refine tg_iconst C (nI 1) dX5_tell_99 100 rfl (by decide) ?_
                      refine tg_goto C 104 dX5_tell_100 (by decide) ?_
                      refine tg_istore_n C dX5_tell_104 105 rfl rfl [(2, .int (nI 1)), (0, .ref (ad 89)), (1, .int (nI (amin (fun u => ctxN n w (cntN wh wd kp tx u) (totN wh wd tx u)) tc))), (3, .int (nI t))] (by decide) rfl ?_
                      refine tg_iinc C (nI (t + 1)) dX5_tell_105 108 rfl 3 rfl (nI_add t 1) [(3, .int (nI (t + 1))), (2, .int (nI 1)), (0, .ref (ad 89)), (1, .int (nI (amin (fun u => ctxN n w (cntN wh wd kp tx u) (totN wh wd tx u)) tc)))] (by decide) rfl ?_
                      refine tg_goto C 64 dX5_tell_108 (by decide) ?_
                      refine tg_sub [2, 3, 1, 0] rfl ?_
                      exact ih64 (t + 1) true ⟨by omega, by rw [sureb]; first | (rw [c73] at hs; rw [← Bool.and_assoc, ← hs]; rfl) | (rw [c73] at hs; rw [← Bool.and_assoc, ← hs]; simp only [Bool.true_and]; first | (rw [decide_eq_true (by omega)]; rfl) | (rw [decide_eq_false (by omega), decide_eq_false (by show ¬ ctxN _ _ _ _ + mg ≤ ctxN _ _ _ _; omega)]; rfl) | (rw [decide_eq_true (p := _ ≤ _) (by show ctxN _ _ _ _ + mg ≤ ctxN _ _ _ _; omega), Bool.or_true]))⟩ (by omega)
          refine tg_sub [2, 3, 1, 0] rfl ?_
          exact L64 _ 0 false ⟨by omega, by first | (rw [decide_eq_true (by omega)]; rfl) | (rw [decide_eq_false (by omega)]; rfl)⟩ (Nat.lt_succ_self _)
        · -- on
          replace c53 : ¬ n < 4 := fun q => c53 ((nI_ltI (by omega) (by omega)).mpr q)
          refine tg_iconst C (nI 1) dX5_tell_56 57 rfl (by decide) ?_
          refine tg_goto C 61 dX5_tell_57 (by decide) ?_
          refine tg_istore_n C dX5_tell_61 62 rfl rfl [(2, .int (nI 1)), (0, .ref (ad 89)), (1, .int (bv e9))] (by decide) rfl ?_
          refine tg_iconst C (nI 0) dX5_tell_62 63 rfl (by decide) ?_
          refine tg_istore_n C dX5_tell_63 64 rfl rfl [(3, .int (nI 0)), (2, .int (nI 1)), (0, .ref (ad 89)), (1, .int (bv e9))] (by decide) rfl ?_
          have L64 : ∀ (n64 : Nat) (t : Nat) (s9 : Bool), (t ≤ tc ∧ s9 = (decide (4 ≤ n) && sureb (fun u => ctxN n w (cntN wh wd kp tx u) (totN wh wd tx u)) (amin (fun u => ctxN n w (cntN wh wd kp tx u) (totN wh wd tx u)) tc) ((fun u => ctxN n w (cntN wh wd kp tx u) (totN wh wd tx u)) (amin (fun u => ctxN n w (cntN wh wd kp tx u) (totN wh wd tx u)) tc) + mg) t)) → tc - t < n64 → TT p l e (Rm 3 73) s m args below meth c D cy ad A 4 0 0 Q σ1 64 [(0, .ref (ad 89)), (1, .int (bv e9)), (2, .int (bI s9)), (3, .int (nI t))] [] := by
            intro n64
            induction n64 with
            | zero => intro t s9 _ hn64; exact absurd hn64 (Nat.not_lt_zero _)
            | succ n64 ih64 =>
              intro t s9 ⟨ht, hs⟩ hn64
              refine tg_iload_n C dX5_tell_64 65 rfl rfl 3 rfl ?_
              refine tg_aload_n C dX5_tell_65 66 rfl rfl 0 rfl ?_
              refine tg_get (T := TX5) (N := 13) (Cn := RX5) C 89 (by decide) (e_89 ad cy _) rfl w1 3 (by decide) w2 rfl rfl dX5_tell_66 69 rfl ?_
              refine tg_top (y := nI tc) (hM1.2.1.1) ?_
              refine tg_icmp_ge C 111 dX5_tell_69 (by decide) 72 rfl (fun c69 => ?_) (fun c69 => ?_)
              · -- to 111
                replace c69 : tc ≤ t := (nI_leI (by omega) (by omega)).mp c69
                refine tg_iload_n C dX5_tell_111 112 rfl rfl 2 rfl ?_
                refine tg_if_eq C 119 dX5_tell_112 (by decide) 115 rfl (fun c112 => ?_) (fun c112 => ?_)
                · -- to 119
                  replace c112 := bI_0.mp c112
                  refine tg_iconst C (-1) dX5_tell_119 120 rfl (by decide) ?_
                  exact hret dX5_tell_120 ⟨by
                      have htt : t = tc := by omega
                      subst htt
                      unfold tlI
                      rcases hb with ⟨h1, h2⟩ | ⟨h1, h2⟩
                      · rw [if_pos (Or.inr h1)]; try (first | rfl | (rw [h2]; rfl))
                      · by_cases h4 : n < 4
                        · rw [decide_eq_false (by omega)] at hs
                          rw [if_pos (Or.inl h4)]
                          try (first | rfl | (rw [hs] at c112; cases c112))
                        · rw [decide_eq_true (by omega), Bool.true_and] at hs
                          rw [if_neg (by omega), ← hs, c112]
                          first | rfl | (rw [h2]; rfl), hσ1⟩
                · -- on
                  replace c112 := bI_n.mp c112
                  refine tg_iload_n C dX5_tell_115 116 rfl rfl 1 rfl ?_
                  refine tg_goto C 120 dX5_tell_116 (by decide) ?_
                  exact hret dX5_tell_120 ⟨by
                      have htt : t = tc := by omega
                      subst htt
                      unfold tlI
                      rcases hb with ⟨h1, h2⟩ | ⟨h1, h2⟩
                      · rw [if_pos (Or.inr h1)]; try (first | rfl | (rw [h2]; rfl))
                      · by_cases h4 : n < 4
                        · rw [decide_eq_false (by omega)] at hs
                          rw [if_pos (Or.inl h4)]
                          try (first | rfl | (rw [hs] at c112; cases c112))
                        · rw [decide_eq_true (by omega), Bool.true_and] at hs
                          rw [if_neg (by omega), ← hs, c112]
                          first | rfl | (rw [h2]; rfl), hσ1⟩
              · -- on
                replace c69 : ¬ tc ≤ t := fun q => c69 ((nI_leI (by omega) (by omega)).mpr q)
                refine tg_iload_n C dX5_tell_72 73 rfl rfl 2 rfl ?_
                refine tg_if_eq C 103 dX5_tell_73 (by decide) 76 rfl (fun c73 => ?_) (fun c73 => ?_)
                · -- to 103
                  replace c73 := bI_0.mp c73
                  refine tg_iconst C (nI 0) dX5_tell_103 104 rfl (by decide) ?_
                  refine tg_istore_n C dX5_tell_104 105 rfl rfl [(2, .int (nI 0)), (0, .ref (ad 89)), (1, .int (bv e9)), (3, .int (nI t))] (by decide) rfl ?_
                  refine tg_iinc C (nI (t + 1)) dX5_tell_105 108 rfl 3 rfl (nI_add t 1) [(3, .int (nI (t + 1))), (2, .int (nI 0)), (0, .ref (ad 89)), (1, .int (bv e9))] (by decide) rfl ?_
                  refine tg_goto C 64 dX5_tell_108 (by decide) ?_
                  refine tg_sub [2, 3, 1, 0] rfl ?_
                  exact ih64 (t + 1) false ⟨by omega, by rw [sureb]; first | (rw [c73] at hs; rw [← Bool.and_assoc, ← hs]; rfl) | (rw [c73] at hs; rw [← Bool.and_assoc, ← hs]; simp only [Bool.true_and]; first | (rw [decide_eq_true (by omega)]; rfl) | (rw [decide_eq_false (by omega), decide_eq_false (by show ¬ ctxN _ _ _ _ + mg ≤ ctxN _ _ _ _; omega)]; rfl) | (rw [decide_eq_true (p := _ ≤ _) (by show ctxN _ _ _ _ + mg ≤ ctxN _ _ _ _; omega), Bool.or_true]))⟩ (by omega)
                · -- on
                  replace c73 := bI_n.mp c73
                  obtain rfl : e9 = amin (fun u => ctxN n w (cntN wh wd kp tx u) (totN wh wd tx u)) tc + 1 := by rcases hb with hb | hb; omega; exact hb.2
                  have ham := amin_lt (fun u => ctxN n w (cntN wh wd kp tx u) (totN wh wd tx u)) tc (by omega)
                  refine tg_sub (lv' := [(0, .ref (ad 89)), (1, .int (nI (amin (fun u => ctxN n w (cntN wh wd kp tx u) (totN wh wd tx u)) tc))), (2, .int (bI s9)), (3, .int (nI t))]) [0, 1, 2, 3] rfl ?_
                  refine tg_iload_n C dX5_tell_76 77 rfl rfl 3 rfl ?_
                  refine tg_iload_n C dX5_tell_77 78 rfl rfl 1 rfl ?_
                  refine tg_icmp_eq C 99 dX5_tell_78 (by decide) 81 rfl (fun c78 => ?_) (fun c78 => ?_)
                  · -- to 99
                    replace c78 : t = (amin (fun u => ctxN n w (cntN wh wd kp tx u) (totN wh wd tx u)) tc) := (nI_eq (by omega) (by omega)).mp c78
                    refine tg_iconst C (nI 1) dX5_tell_99 100 rfl (by decide) ?_
                    refine tg_goto C 104 dX5_tell_100 (by decide) ?_
                    refine tg_istore_n C dX5_tell_104 105 rfl rfl [(2, .int (nI 1)), (0, .ref (ad 89)), (1, .int (nI (amin (fun u => ctxN n w (cntN wh wd kp tx u) (totN wh wd tx u)) tc))), (3, .int (nI t))] (by decide) rfl ?_
                    refine tg_iinc C (nI (t + 1)) dX5_tell_105 108 rfl 3 rfl (nI_add t 1) [(3, .int (nI (t + 1))), (2, .int (nI 1)), (0, .ref (ad 89)), (1, .int (nI (amin (fun u => ctxN n w (cntN wh wd kp tx u) (totN wh wd tx u)) tc)))] (by decide) rfl ?_
                    refine tg_goto C 64 dX5_tell_108 (by decide) ?_
                    refine tg_sub [2, 3, 1, 0] rfl ?_
                    exact ih64 (t + 1) true ⟨by omega, by rw [sureb]; first | (rw [c73] at hs; rw [← Bool.and_assoc, ← hs]; rfl) | (rw [c73] at hs; rw [← Bool.and_assoc, ← hs]; simp only [Bool.true_and]; first | (rw [decide_eq_true (by omega)]; rfl) | (rw [decide_eq_false (by omega), decide_eq_false (by show ¬ ctxN _ _ _ _ + mg ≤ ctxN _ _ _ _; omega)]; rfl) | (rw [decide_eq_true (p := _ ≤ _) (by show ctxN _ _ _ _ + mg ≤ ctxN _ _ _ _; omega), Bool.or_true]))⟩ (by omega)
                  · -- on
                    replace c78 : ¬ t = (amin (fun u => ctxN n w (cntN wh wd kp tx u) (totN wh wd tx u)) tc) := fun q => c78 ((nI_eq (by omega) (by omega)).mpr q)
                    refine tg_aload_n C dX5_tell_81 82 rfl rfl 0 rfl ?_
                    refine tg_iload_n C dX5_tell_82 83 rfl rfl 3 rfl ?_
                    refine tg_callVi C 89 (by decide) (e_89 ad cy _) rfl (c_X5_costOfText l D cy ad hDis σ1 hM1 (t := t) (by omega)) (cwV 1 C.2.2.2.2.1 gX5_tell_X5_costOfText rfl rfl rfl (by decide +kernel) ⟨Nat.le_of_ble_eq_true rfl, Nat.le_of_ble_eq_true rfl⟩) rfl rfl (Nat.le_of_ble_eq_true rfl) ⟨Nat.le_of_ble_eq_true rfl, Nat.le_of_ble_eq_true rfl⟩ dX5_tell_83 86 rfl (fun r83 τ83 h83 => ?_)
                    obtain ⟨h83, h83s⟩ := h83
                    subst h83s
                    subst h83
                    refine tg_aload_n C dX5_tell_86 87 rfl rfl 0 rfl ?_
                    refine tg_iload_n C dX5_tell_87 88 rfl rfl 1 rfl ?_
                    refine tg_callVi C 89 (by decide) (e_89 ad cy _) rfl (c_X5_costOfText l D cy ad hDis σ1 hM1 (t := amin (fun u => ctxN n w (cntN wh wd kp tx u) (totN wh wd tx u)) tc) (by omega)) (cwV 1 C.2.2.2.2.1 gX5_tell_X5_costOfText rfl rfl rfl (by decide +kernel) ⟨Nat.le_of_ble_eq_true rfl, Nat.le_of_ble_eq_true rfl⟩) rfl rfl (Nat.le_of_ble_eq_true rfl) ⟨Nat.le_of_ble_eq_true rfl, Nat.le_of_ble_eq_true rfl⟩ dX5_tell_88 91 rfl (fun r88 τ88 h88 => ?_)
                    obtain ⟨h88, h88s⟩ := h88
                    subst h88s
                    subst h88
                    refine tg_aload_n C dX5_tell_91 92 rfl rfl 0 rfl ?_
                    refine tg_get (T := TX5) (N := 13) (Cn := RX5) C 89 (by decide) (e_89 ad cy _) rfl w1 4 (by decide) w4 rfl rfl dX5_tell_92 95 rfl ?_
                    refine tg_top (y := nI mg) (hM1.2.1.2.1) ?_
                    refine tg_iadd C (nI ((ctxN n w (cntN wh wd kp tx (amin (fun u => ctxN n w (cntN wh wd kp tx u) (totN wh wd tx u)) tc)) (totN wh wd tx (amin (fun u => ctxN n w (cntN wh wd kp tx u) (totN wh wd tx u)) tc))) + mg)) dX5_tell_95 96 rfl (nI_add (ctxN n w (cntN wh wd kp tx (amin (fun u => ctxN n w (cntN wh wd kp tx u) (totN wh wd tx u)) tc)) (totN wh wd tx (amin (fun u => ctxN n w (cntN wh wd kp tx u) (totN wh wd tx u)) tc))) mg) ?_
                    have hct := hcl t
                    have hca := hcl (amin (fun u => ctxN n w (cntN wh wd kp tx u) (totN wh wd tx u)) tc)
                    refine tg_icmp_lt C 103 dX5_tell_96 (by decide) 99 rfl (fun c96 => ?_) (fun c96 => ?_)
                    · -- to 103
                      replace c96 : (ctxN n w (cntN wh wd kp tx t) (totN wh wd tx t)) < ((ctxN n w (cntN wh wd kp tx (amin (fun u => ctxN n w (cntN wh wd kp tx u) (totN wh wd tx u)) tc)) (totN wh wd tx (amin (fun u => ctxN n w (cntN wh wd kp tx u) (totN wh wd tx u)) tc))) + mg) := (nI_ltI (by omega) (by omega)).mp c96
                      refine tg_iconst C (nI 0) dX5_tell_103 104 rfl (by decide) ?_
                      refine tg_istore_n C dX5_tell_104 105 rfl rfl [(2, .int (nI 0)), (0, .ref (ad 89)), (1, .int (nI (amin (fun u => ctxN n w (cntN wh wd kp tx u) (totN wh wd tx u)) tc))), (3, .int (nI t))] (by decide) rfl ?_
                      refine tg_iinc C (nI (t + 1)) dX5_tell_105 108 rfl 3 rfl (nI_add t 1) [(3, .int (nI (t + 1))), (2, .int (nI 0)), (0, .ref (ad 89)), (1, .int (nI (amin (fun u => ctxN n w (cntN wh wd kp tx u) (totN wh wd tx u)) tc)))] (by decide) rfl ?_
                      refine tg_goto C 64 dX5_tell_108 (by decide) ?_
                      refine tg_sub [2, 3, 1, 0] rfl ?_
                      exact ih64 (t + 1) false ⟨by omega, by rw [sureb]; first | (rw [c73] at hs; rw [← Bool.and_assoc, ← hs]; rfl) | (rw [c73] at hs; rw [← Bool.and_assoc, ← hs]; simp only [Bool.true_and]; first | (rw [decide_eq_true (by omega)]; rfl) | (rw [decide_eq_false (by omega), decide_eq_false (by show ¬ ctxN _ _ _ _ + mg ≤ ctxN _ _ _ _; omega)]; rfl) | (rw [decide_eq_true (p := _ ≤ _) (by show ctxN _ _ _ _ + mg ≤ ctxN _ _ _ _; omega), Bool.or_true]))⟩ (by omega)
                    · -- on
                      replace c96 : ¬ (ctxN n w (cntN wh wd kp tx t) (totN wh wd tx t)) < ((ctxN n w (cntN wh wd kp tx (amin (fun u => ctxN n w (cntN wh wd kp tx u) (totN wh wd tx u)) tc)) (totN wh wd tx (amin (fun u => ctxN n w (cntN wh wd kp tx u) (totN wh wd tx u)) tc))) + mg) := fun q => c96 ((nI_ltI (by omega) (by omega)).mpr q)
                      refine tg_iconst C (nI 1) dX5_tell_99 100 rfl (by decide) ?_
                      refine tg_goto C 104 dX5_tell_100 (by decide) ?_
                      refine tg_istore_n C dX5_tell_104 105 rfl rfl [(2, .int (nI 1)), (0, .ref (ad 89)), (1, .int (nI (amin (fun u => ctxN n w (cntN wh wd kp tx u) (totN wh wd tx u)) tc))), (3, .int (nI t))] (by decide) rfl ?_
                      refine tg_iinc C (nI (t + 1)) dX5_tell_105 108 rfl 3 rfl (nI_add t 1) [(3, .int (nI (t + 1))), (2, .int (nI 1)), (0, .ref (ad 89)), (1, .int (nI (amin (fun u => ctxN n w (cntN wh wd kp tx u) (totN wh wd tx u)) tc)))] (by decide) rfl ?_
                      refine tg_goto C 64 dX5_tell_108 (by decide) ?_
                      refine tg_sub [2, 3, 1, 0] rfl ?_
                      exact ih64 (t + 1) true ⟨by omega, by rw [sureb]; first | (rw [c73] at hs; rw [← Bool.and_assoc, ← hs]; rfl) | (rw [c73] at hs; rw [← Bool.and_assoc, ← hs]; simp only [Bool.true_and]; first | (rw [decide_eq_true (by omega)]; rfl) | (rw [decide_eq_false (by omega), decide_eq_false (by show ¬ ctxN _ _ _ _ + mg ≤ ctxN _ _ _ _; omega)]; rfl) | (rw [decide_eq_true (p := _ ≤ _) (by show ctxN _ _ _ _ + mg ≤ ctxN _ _ _ _; omega), Bool.or_true]))⟩ (by omega)
          refine tg_sub [2, 3, 1, 0] rfl ?_
          exact L64 _ 0 true ⟨by omega, by first | (rw [decide_eq_true (by omega)]; rfl) | (rw [decide_eq_false (by omega)]; rfl)⟩ (Nat.lt_succ_self _)
      · -- on
        obtain ⟨p, rfl⟩ : ∃ p, q = p + 1 := ⟨q - 1, by have : q ≠ 0 := fun h => c15 ((bv_lt (by omega)).mpr h); omega⟩
        refine tg_sub (lv' := [(0, .ref (ad 89)), (1, .int (bv e9)), (2, .int (nI p))]) [0, 1, 2] rfl ?_
        refine tg_iload_n C dX5_tell_18 19 rfl rfl 1 rfl ?_
        refine tg_iconst C (-1) dX5_tell_19 20 rfl (by decide) ?_
        refine tg_icmp_eq C 36 dX5_tell_20 (by decide) 23 rfl (fun c20 => ?_) (fun c20 => ?_)
        · -- to 36
          replace c20 := (bv_m1 (by omega)).mp c20
          subst c20
          refine tg_iload_n C dX5_tell_36 37 rfl rfl 2 rfl ?_
          refine tg_goto C 41 dX5_tell_37 (by decide) ?_
          refine tg_istore_n C dX5_tell_41 42 rfl rfl [(1, .int (nI p)), (0, .ref (ad 89)), (2, .int (nI p))] (by decide) rfl ?_
          refine tg_iinc C (bv p) dX5_tell_42 45 rfl 2 rfl (bv_dec p) [(2, .int (bv p)), (1, .int (nI p)), (0, .ref (ad 89))] (by decide) rfl ?_
          refine tg_goto C 14 dX5_tell_45 (by decide) ?_
          refine tg_sub [2, 1, 0] rfl ?_
          exact ih14 p (p + 1) ⟨by omega, by omega, by first | exact bst_none hb | exact bst_take hb (by show ctxN _ _ _ _ ≤ ctxN _ _ _ _; omega)⟩ (by omega)
        · -- on
          obtain ⟨b, rfl⟩ : ∃ b, e9 = b + 1 := ⟨e9 - 1, by have : e9 ≠ 0 := fun h => c20 ((bv_m1 (by omega)).mpr h); omega⟩
          refine tg_sub (lv' := [(0, .ref (ad 89)), (1, .int (nI b)), (2, .int (nI p))]) [0, 1, 2] rfl ?_
          refine tg_aload_n C dX5_tell_23 24 rfl rfl 0 rfl ?_
          refine tg_iload_n C dX5_tell_24 25 rfl rfl 2 rfl ?_
          refine tg_callVi C 89 (by decide) (e_89 ad cy _) rfl (c_X5_costOfText l D cy ad hDis σ1 hM1 (t := p) (by omega)) (cwV 1 C.2.2.2.2.1 gX5_tell_X5_costOfText rfl rfl rfl (by decide +kernel) ⟨Nat.le_of_ble_eq_true rfl, Nat.le_of_ble_eq_true rfl⟩) rfl rfl (Nat.le_of_ble_eq_true rfl) ⟨Nat.le_of_ble_eq_true rfl, Nat.le_of_ble_eq_true rfl⟩ dX5_tell_25 28 rfl (fun r25 τ25 h25 => ?_)
          obtain ⟨h25, h25s⟩ := h25
          subst h25s
          subst h25
          refine tg_aload_n C dX5_tell_28 29 rfl rfl 0 rfl ?_
          refine tg_iload_n C dX5_tell_29 30 rfl rfl 1 rfl ?_
          refine tg_callVi C 89 (by decide) (e_89 ad cy _) rfl (c_X5_costOfText l D cy ad hDis σ1 hM1 (t := b) (by omega)) (cwV 1 C.2.2.2.2.1 gX5_tell_X5_costOfText rfl rfl rfl (by decide +kernel) ⟨Nat.le_of_ble_eq_true rfl, Nat.le_of_ble_eq_true rfl⟩) rfl rfl (Nat.le_of_ble_eq_true rfl) ⟨Nat.le_of_ble_eq_true rfl, Nat.le_of_ble_eq_true rfl⟩ dX5_tell_30 33 rfl (fun r30 τ30 h30 => ?_)
          obtain ⟨h30, h30s⟩ := h30
          subst h30s
          subst h30
          have hcp := hcl p
          have hcb := hcl b
          refine tg_icmp_gt C 40 dX5_tell_33 (by decide) 36 rfl (fun c33 => ?_) (fun c33 => ?_)
          · -- to 40
            replace c33 : (ctxN n w (cntN wh wd kp tx b) (totN wh wd tx b)) < (ctxN n w (cntN wh wd kp tx p) (totN wh wd tx p)) := (nI_ltI (by omega) (by omega)).mp c33
            refine tg_iload_n C dX5_tell_40 41 rfl rfl 1 rfl ?_
            refine tg_istore_n C dX5_tell_41 42 rfl rfl [(1, .int (nI b)), (0, .ref (ad 89)), (2, .int (nI p))] (by decide) rfl ?_
            refine tg_iinc C (bv p) dX5_tell_42 45 rfl 2 rfl (bv_dec p) [(2, .int (bv p)), (1, .int (nI b)), (0, .ref (ad 89))] (by decide) rfl ?_
            refine tg_goto C 14 dX5_tell_45 (by decide) ?_
            refine tg_sub [2, 1, 0] rfl ?_
            exact ih14 p (b + 1) ⟨by omega, by omega, bst_keep hb (by show ¬ ctxN _ _ _ _ ≤ ctxN _ _ _ _; omega)⟩ (by omega)
          · -- on
            replace c33 : ¬ (ctxN n w (cntN wh wd kp tx b) (totN wh wd tx b)) < (ctxN n w (cntN wh wd kp tx p) (totN wh wd tx p)) := fun q => c33 ((nI_ltI (by omega) (by omega)).mpr q)
            refine tg_iload_n C dX5_tell_36 37 rfl rfl 2 rfl ?_
            refine tg_goto C 41 dX5_tell_37 (by decide) ?_
            refine tg_istore_n C dX5_tell_41 42 rfl rfl [(1, .int (nI p)), (0, .ref (ad 89)), (2, .int (nI p))] (by decide) rfl ?_
            refine tg_iinc C (bv p) dX5_tell_42 45 rfl 2 rfl (bv_dec p) [(2, .int (bv p)), (1, .int (nI p)), (0, .ref (ad 89))] (by decide) rfl ?_
            refine tg_goto C 14 dX5_tell_45 (by decide) ?_
            refine tg_sub [2, 1, 0] rfl ?_
            exact ih14 p (p + 1) ⟨by omega, by omega, by first | exact bst_none hb | exact bst_take hb (by show ctxN _ _ _ _ ≤ ctxN _ _ _ _; omega)⟩ (by omega)
  refine tg_sub [2, 1, 0] rfl ?_
  exact L14 _ tc 0 ⟨Nat.le_refl _, by omega, Or.inl ⟨rfl, rfl⟩⟩ (Nat.lt_succ_self _)
set_option maxHeartbeats 4000000 in
set_option maxRecDepth 100000 in
theorem c_X5_tellByRanks (l : Launch) (D : va_G) (cy : Nat → ClassId) (ad : Nat → Nat) (hDis : Dis ad) (σ : sS) {n : Nat} {w : Nat → Nat} {tc mg pr tx nx : Nat} {nm wh wd : Nat → Nat} {kp : Nat → Nat → Nat} (hM : MM σ n w tc mg pr tx nx nm wh wd kp) : Mi l yX5_tellByRanks wsX5_tellByRanks 3 78 D cy ad [.ref (ad 89)] σ (fun r τ => r = tbI n tc (fun u => dstN (ownN n w (rc n)) (cntN wh wd kp tx u)) ∧ τ = su σ 89 0 (nI 0)) := by
  have w0 : Cond.fieldLink RX5 35 "TonguetellModel" "thrown" "I" ∈ wsX5_tellByRanks := by decide +kernel
  have w1 : ∀ w ∈ wsX50, w ∈ wsX5_tellByRanks := by decide +kernel
  have w2 : Cond.fieldLink RX5 38 "TonguetellModel" "tongueMany" "I" ∈ wsX5_tellByRanks := by decide +kernel
  have w3 : Cond.fieldLink RX5 45 "TonguetellModel" "letters" "I" ∈ wsX5_tellByRanks := by decide +kernel
  have hn16 := hM.1.2.1
  have htc5 := hM.2.1.2.2.2.1
  have htx := hM.2.2.2.2.1
  have hrc := rc_le hn16
  have hrn := hM.rn_lt
  have hwd := hM.wd_le
  have hmg := hM.2.1.2.2.2.2.1
  have hpr := hM.2.1.2.2.2.2.2
  have hnx := hM.2.2.2.2.2.1
  have hdl : ∀ u, (fun u => dstN (ownN n w (rc n)) (cntN wh wd kp tx u)) u ≤ 1296 := fun u => dstN_le _ _
  refine Mi.of (cc := cX5_tellByRanks) (nL := 3) (own := RX5) hDis (by decide) rfl [(0, .ref (ad 89))] rfl (Nat.le_of_ble_eq_true rfl) rfl ?_
  intro p e s m args below meth c A Q C hret
  refine tg_aload_n C dX5_tellByRanks_0 1 rfl rfl 0 rfl ?_
  refine tg_iconst C (nI 0) dX5_tellByRanks_1 2 rfl (by decide) ?_
  refine tg_put (T := TX5) (N := 13) (Cn := RX5) C tyX5 tyX5_ok nmX5 89 (by decide) (e_89 ad cy _) rfl w1 0 (by decide) w0 rfl rfl (by decide +kernel) (Nat.le_of_ble_eq_true rfl) (e_89 ad cy _) dX5_tellByRanks_2 5 rfl ?_
  obtain ⟨σ1, hσ1⟩ : ∃ z : sS, z = su σ 89 0 (nI 0) := ⟨_, rfl⟩
  rw [← hσ1]
  have hM1 : MM σ1 n w tc mg pr tx nx nm wh wd kp := by rw [hσ1]; exact hM.th _
  refine tg_iconst C (-1) dX5_tellByRanks_5 6 rfl (by decide) ?_
  refine tg_istore_n C dX5_tellByRanks_6 7 rfl rfl [(1, .int ((-1))), (0, .ref (ad 89))] (by decide) rfl ?_
  refine tg_aload_n C dX5_tellByRanks_7 8 rfl rfl 1 rfl ?_
  refine tg_get (T := TX5) (N := 13) (Cn := RX5) C 89 (by decide) (e_89 ad cy _) rfl w1 3 (by decide) w2 rfl rfl dX5_tellByRanks_8 11 rfl ?_
  refine tg_top (y := nI tc) (hM1.2.1.1) ?_
  refine tg_iconst C (nI 1) dX5_tellByRanks_11 12 rfl (by decide) ?_
  refine tg_isub C (bv tc) dX5_tellByRanks_12 13 rfl (bv_pred tc) ?_
  refine tg_istore_n C dX5_tellByRanks_13 14 rfl rfl [(2, .int (bv tc)), (1, .int ((-1))), (0, .ref (ad 89))] (by decide) rfl ?_
  have L14 : ∀ (n14 : Nat) (q e9 : Nat), (q ≤ tc ∧ e9 ≤ tc ∧ (n = 0 → e9 = 0) ∧ bst (fun u => dstN (ownN n w (rc n)) (cntN wh wd kp tx u)) tc q e9) → q < n14 → TT p l e (Rm 3 78) s m args below meth c D cy ad A 3 0 0 Q σ1 14 [(0, .ref (ad 89)), (1, .int (bv e9)), (2, .int (bv q))] [] := by
    intro n14
    induction n14 with
    | zero => intro q e9 _ hn14; exact absurd hn14 (Nat.not_lt_zero _)
    | succ n14 ih14 =>
      intro q e9 ⟨hq, he, hn0, hb⟩ hn14
      refine tg_iload_n C dX5_tellByRanks_14 15 rfl rfl 2 rfl ?_
      refine tg_if_lt C 55 dX5_tellByRanks_15 (by decide) 18 rfl (fun c15 => ?_) (fun c15 => ?_)
      · -- to 55
        replace c15 := (bv_lt (by omega)).mp c15
        subst c15
        replace hb := bst_end hb
        refine tg_iload_n C dX5_tellByRanks_55 56 rfl rfl 1 rfl ?_
        exact hret dX5_tellByRanks_56 ⟨by
            unfold tbI
            by_cases h0 : n = 0
            · rw [if_pos (Or.inl h0), hn0 h0]; rfl
            · rcases (show (tc = 0 ∧ e9 = 0) ∨ (0 < tc ∧ e9 = amin (fun u => dstN (ownN n w (rc n)) (cntN wh wd kp tx u)) tc + 1) by first | exact hb | exact absurd c22 (by omega)) with ⟨h1, h2⟩ | ⟨h1, h2⟩
              · rw [if_pos (Or.inr h1), h2]; rfl
              · rw [if_neg (by omega), h2]; rfl, hσ1⟩
      · -- on
        obtain ⟨p, rfl⟩ : ∃ p, q = p + 1 := ⟨q - 1, by have : q ≠ 0 := fun h => c15 ((bv_lt (by omega)).mpr h); omega⟩
        refine tg_sub (lv' := [(0, .ref (ad 89)), (1, .int (bv e9)), (2, .int (nI p))]) [0, 1, 2] rfl ?_
        refine tg_aload_n C dX5_tellByRanks_18 19 rfl rfl 0 rfl ?_
        refine tg_get (T := TX5) (N := 13) (Cn := RX5) C 89 (by decide) (e_89 ad cy _) rfl w1 2 (by decide) w3 rfl rfl dX5_tellByRanks_19 22 rfl ?_
        refine tg_top (y := nI n) (hM1.1.1) ?_
        refine tg_if_le C 55 dX5_tellByRanks_22 (by decide) 25 rfl (fun c22 => ?_) (fun c22 => ?_)
        · -- to 55
          replace c22 : n = 0 := (z_le (by omega)).mp c22
          refine tg_iload_n C dX5_tellByRanks_55 56 rfl rfl 1 rfl ?_
          exact hret dX5_tellByRanks_56 ⟨by
              unfold tbI
              by_cases h0 : n = 0
              · rw [if_pos (Or.inl h0), hn0 h0]; rfl
              · rcases (show (tc = 0 ∧ e9 = 0) ∨ (0 < tc ∧ e9 = amin (fun u => dstN (ownN n w (rc n)) (cntN wh wd kp tx u)) tc + 1) by first | exact hb | exact absurd c22 (by omega)) with ⟨h1, h2⟩ | ⟨h1, h2⟩
                · rw [if_pos (Or.inr h1), h2]; rfl
                · rw [if_neg (by omega), h2]; rfl, hσ1⟩
        · -- on
          replace c22 : ¬ n = 0 := fun q => c22 ((z_le (by omega)).mpr q)
          refine tg_iload_n C dX5_tellByRanks_25 26 rfl rfl 1 rfl ?_
          refine tg_iconst C (-1) dX5_tellByRanks_26 27 rfl (by decide) ?_
          refine tg_icmp_eq C 43 dX5_tellByRanks_27 (by decide) 30 rfl (fun c27 => ?_) (fun c27 => ?_)
          · -- to 43
            replace c27 := (bv_m1 (by omega)).mp c27
            subst c27
            refine tg_iload_n C dX5_tellByRanks_43 44 rfl rfl 2 rfl ?_
            refine tg_goto C 48 dX5_tellByRanks_44 (by decide) ?_
            refine tg_istore_n C dX5_tellByRanks_48 49 rfl rfl [(1, .int (nI p)), (0, .ref (ad 89)), (2, .int (nI p))] (by decide) rfl ?_
            refine tg_iinc C (bv p) dX5_tellByRanks_49 52 rfl 2 rfl (bv_dec p) [(2, .int (bv p)), (1, .int (nI p)), (0, .ref (ad 89))] (by decide) rfl ?_
            refine tg_goto C 14 dX5_tellByRanks_52 (by decide) ?_
            refine tg_sub [2, 1, 0] rfl ?_
            exact ih14 p (p + 1) ⟨by omega, by omega, fun h => by omega, by first | exact bst_none hb | exact bst_take hb (by show dstN _ _ ≤ dstN _ _; omega)⟩ (by omega)
          · -- on
            obtain ⟨b, rfl⟩ : ∃ b, e9 = b + 1 := ⟨e9 - 1, by have : e9 ≠ 0 := fun h => c27 ((bv_m1 (by omega)).mpr h); omega⟩
            refine tg_sub (lv' := [(0, .ref (ad 89)), (1, .int (nI b)), (2, .int (nI p))]) [0, 1, 2] rfl ?_
            refine tg_aload_n C dX5_tellByRanks_30 31 rfl rfl 0 rfl ?_
            refine tg_iload_n C dX5_tellByRanks_31 32 rfl rfl 2 rfl ?_
            refine tg_callVi C 89 (by decide) (e_89 ad cy _) rfl (c_X5_distanceOf l D cy ad hDis σ1 hM1 (t := p) (by omega)) (cwV 1 C.2.2.2.2.1 gX5_tellByRanks_X5_distanceOf rfl rfl rfl (by decide +kernel) ⟨Nat.le_of_ble_eq_true rfl, Nat.le_of_ble_eq_true rfl⟩) rfl rfl (Nat.le_of_ble_eq_true rfl) ⟨Nat.le_of_ble_eq_true rfl, Nat.le_of_ble_eq_true rfl⟩ dX5_tellByRanks_32 35 rfl (fun r32 τ32 h32 => ?_)
            obtain ⟨h32, h32s⟩ := h32
            subst h32s
            subst h32
            refine tg_aload_n C dX5_tellByRanks_35 36 rfl rfl 0 rfl ?_
            refine tg_iload_n C dX5_tellByRanks_36 37 rfl rfl 1 rfl ?_
            refine tg_callVi C 89 (by decide) (e_89 ad cy _) rfl (c_X5_distanceOf l D cy ad hDis σ1 hM1 (t := b) (by omega)) (cwV 1 C.2.2.2.2.1 gX5_tellByRanks_X5_distanceOf rfl rfl rfl (by decide +kernel) ⟨Nat.le_of_ble_eq_true rfl, Nat.le_of_ble_eq_true rfl⟩) rfl rfl (Nat.le_of_ble_eq_true rfl) ⟨Nat.le_of_ble_eq_true rfl, Nat.le_of_ble_eq_true rfl⟩ dX5_tellByRanks_37 40 rfl (fun r37 τ37 h37 => ?_)
            obtain ⟨h37, h37s⟩ := h37
            subst h37s
            subst h37
            have hcp : dstN _ _ ≤ _ := hdl p
            have hcb : dstN _ _ ≤ _ := hdl b
            refine tg_icmp_gt C 47 dX5_tellByRanks_40 (by decide) 43 rfl (fun c40 => ?_) (fun c40 => ?_)
            · -- to 47
              replace c40 : (dstN (ownN n w (rc n)) (cntN wh wd kp tx b)) < (dstN (ownN n w (rc n)) (cntN wh wd kp tx p)) := (nI_ltI (by omega) (by omega)).mp c40
              refine tg_iload_n C dX5_tellByRanks_47 48 rfl rfl 1 rfl ?_
              refine tg_istore_n C dX5_tellByRanks_48 49 rfl rfl [(1, .int (nI b)), (0, .ref (ad 89)), (2, .int (nI p))] (by decide) rfl ?_
              refine tg_iinc C (bv p) dX5_tellByRanks_49 52 rfl 2 rfl (bv_dec p) [(2, .int (bv p)), (1, .int (nI b)), (0, .ref (ad 89))] (by decide) rfl ?_
              refine tg_goto C 14 dX5_tellByRanks_52 (by decide) ?_
              refine tg_sub [2, 1, 0] rfl ?_
              exact ih14 p (b + 1) ⟨by omega, by omega, fun h => by omega, bst_keep hb (by show ¬ dstN _ _ ≤ dstN _ _; omega)⟩ (by omega)
            · -- on
              replace c40 : ¬ (dstN (ownN n w (rc n)) (cntN wh wd kp tx b)) < (dstN (ownN n w (rc n)) (cntN wh wd kp tx p)) := fun q => c40 ((nI_ltI (by omega) (by omega)).mpr q)
              refine tg_iload_n C dX5_tellByRanks_43 44 rfl rfl 2 rfl ?_
              refine tg_goto C 48 dX5_tellByRanks_44 (by decide) ?_
              refine tg_istore_n C dX5_tellByRanks_48 49 rfl rfl [(1, .int (nI p)), (0, .ref (ad 89)), (2, .int (nI p))] (by decide) rfl ?_
              refine tg_iinc C (bv p) dX5_tellByRanks_49 52 rfl 2 rfl (bv_dec p) [(2, .int (bv p)), (1, .int (nI p)), (0, .ref (ad 89))] (by decide) rfl ?_
              refine tg_goto C 14 dX5_tellByRanks_52 (by decide) ?_
              refine tg_sub [2, 1, 0] rfl ?_
              exact ih14 p (p + 1) ⟨by omega, by omega, fun h => by omega, by first | exact bst_none hb | exact bst_take hb (by show dstN _ _ ≤ dstN _ _; omega)⟩ (by omega)
  refine tg_sub [2, 1, 0] rfl ?_
  exact L14 _ tc 0 ⟨Nat.le_refl _, by omega, fun _ => rfl, Or.inl ⟨rfl, rfl⟩⟩ (Nat.lt_succ_self _)
set_option maxHeartbeats 4000000 in
set_option maxRecDepth 100000 in
theorem c_X5_spell (l : Launch) (D : va_G) (cy : Nat → ClassId) (ad : Nat → Nat) (hDis : Dis ad) (σ : sS) {n : Nat} {w : Nat → Nat} {tc mg pr tx nx : Nat} {nm wh wd : Nat → Nat} {kp : Nat → Nat → Nat} (hM : MM σ n w tc mg pr tx nx nm wh wd kp) {x : Int32} : Mi l yX5_spell wsX5_spell 0 0 D cy ad [.ref (ad 89), .int x] σ (fun r τ => (lnI x = -1 ∧ τ = su σ 89 0 (nI 1)) ∨ (¬ lnI x = -1 ∧ n = 16 ∧ τ = su σ 89 0 (nI 2)) ∨ (¬ lnI x = -1 ∧ n < 16 ∧ r = nI (n + 1) ∧ τ = su (su (su σ 89 0 (nI 0)) 90 n (lnI x)) 89 2 (nI (n + 1)))) := by
  have w0 : Cond.fieldLink RX5 45 "TonguetellModel" "letters" "I" ∈ wsX5_spell := by decide +kernel
  have w1 : ∀ w ∈ wsX50, w ∈ wsX5_spell := by decide +kernel
  have w2 : Cond.fieldLink RX5 35 "TonguetellModel" "thrown" "I" ∈ wsX5_spell := by decide +kernel
  have w3 : Cond.fieldLink RX5 7 "TonguetellModel" "spelled" "[I" ∈ wsX5_spell := by decide +kernel
  have hn16 := hM.1.2.1
  have htc5 := hM.2.1.2.2.2.1
  have htx := hM.2.2.2.2.1
  have hrc := rc_le hn16
  have hrn := hM.rn_lt
  have hwd := hM.wd_le
  have hmg := hM.2.1.2.2.2.2.1
  have hpr := hM.2.1.2.2.2.2.2
  have hnx := hM.2.2.2.2.2.1
  refine Mi.of (cc := cX5_spell) (nL := 3) (own := RX5) hDis (by decide) rfl [(0, .ref (ad 89)), (1, .int x)] rfl (Nat.le_of_ble_eq_true rfl) rfl ?_
  intro p e s m args below meth c A Q C hret
  refine tg_iload_n C dX5_spell_0 1 rfl rfl 1 rfl ?_
  refine tg_bipush C (nI 32) dX5_spell_1 3 rfl (by decide) ?_
  refine tg_icmp_eq C 18 dX5_spell_3 (by decide) 6 rfl (fun c3 => ?_) (fun c3 => ?_)
  · -- to 18
    refine tg_iconst C (nI 1) dX5_spell_18 19 rfl (by decide) ?_
    refine tg_goto C 23 dX5_spell_19 (by decide) ?_
    refine tg_istore_n C dX5_spell_23 24 rfl rfl [(2, .int (nI 1)), (0, .ref (ad 89)), (1, .int x)] (by decide) rfl ?_
    refine tg_aload_n C dX5_spell_24 25 rfl rfl 1 rfl ?_
    refine tg_iload_n C dX5_spell_25 26 rfl rfl 0 rfl ?_
    refine tg_if_ne C 33 dX5_spell_26 (by decide) 29 rfl (fun c26 => ?_) (fun c26 => absurd c26 (by decide))
    refine tg_aload_n C dX5_spell_33 34 rfl rfl 1 rfl ?_
    refine tg_get (T := TX5) (N := 13) (Cn := RX5) C 89 (by decide) (e_89 ad cy _) rfl w1 2 (by decide) w0 rfl rfl dX5_spell_34 37 rfl ?_
    refine tg_top (y := nI n) (hM.1.1) ?_
    refine tg_bipush C (nI 16) dX5_spell_37 39 rfl (by decide) ?_
    refine tg_icmp_ne C 46 dX5_spell_39 (by decide) 42 rfl (fun c39 => ?_) (fun c39 => ?_)
    · -- to 46
      replace c39 : ¬ n = 16 := fun q => c39 ((nI_eq (by omega) (by omega)).mpr q)
      refine tg_iconst C (nI 0) dX5_spell_46 47 rfl (by decide) ?_
      refine tg_put (T := TX5) (N := 13) (Cn := RX5) C tyX5 tyX5_ok nmX5 89 (by decide) (e_89 ad cy _) rfl w1 0 (by decide) w2 rfl rfl (by decide +kernel) (Nat.le_of_ble_eq_true rfl) (e_89 ad cy _) dX5_spell_47 50 rfl ?_
      refine tg_aload_n C dX5_spell_50 51 rfl rfl 1 rfl ?_
      refine tg_get (T := TX5) (N := 13) (Cn := RX5) C 89 (by decide) (e_89 ad cy _) rfl w1 0 (by decide) w2 rfl rfl dX5_spell_51 54 rfl ?_
      refine tg_top (y := nI 0) (su_eq _ _ _ _) ?_
      refine tg_if_le C 59 dX5_spell_54 (by decide) 57 rfl (fun c54 => ?_) (fun c54 => absurd (by decide) c54)
      obtain ⟨σ1, hσ1⟩ : ∃ z : sS, z = su σ 89 0 (nI 0) := ⟨_, rfl⟩
      rw [← hσ1]
      have hM1 : MM σ1 n w tc mg pr tx nx nm wh wd kp := by rw [hσ1]; exact hM.th _
      refine tg_aload_n C dX5_spell_59 60 rfl rfl 1 rfl ?_
      refine tg_get (T := TX5) (N := 13) (Cn := RX5) C 89 (by decide) (e_89 ad cy _) rfl w1 1 (by decide) w3 rfl rfl dX5_spell_60 63 rfl ?_
      refine tg_aload_n C dX5_spell_63 64 rfl rfl 1 rfl ?_
      refine tg_get (T := TX5) (N := 13) (Cn := RX5) C 89 (by decide) (e_89 ad cy _) rfl w1 2 (by decide) w0 rfl rfl dX5_spell_64 67 rfl ?_
      refine tg_top (y := nI n) (hM1.1.1) ?_
      refine tg_iload_n C dX5_spell_67 68 rfl rfl 2 rfl ?_
      refine tg_bipush C (nI 32) dX5_spell_68 70 rfl (by decide) ?_
      refine tg_icmp_ne C 77 dX5_spell_70 (by decide) 73 rfl (fun c70 => absurd (c3) c70) (fun c70 => ?_)
      refine tg_iconst C (nI 0) dX5_spell_73 74 rfl (by decide) ?_
      refine tg_goto C 83 dX5_spell_74 (by decide) ?_
      refine tg_iast C 90 (by decide) (e_90 ad cy) n rfl (by omega) (by decide) dX5_spell_83 84 rfl ?_
      refine tg_aload_n C dX5_spell_84 85 rfl rfl 1 rfl ?_
      refine tg_dup C dX5_spell_85 86 rfl rfl ?_
      refine tg_get (T := TX5) (N := 13) (Cn := RX5) C 89 (by decide) (e_89 ad cy _) rfl w1 2 (by decide) w0 rfl rfl dX5_spell_86 89 rfl ?_
      refine tg_top (y := nI n) (by rw [su_ni _ _ _ (by decide)]; exact hM1.1.1) ?_
      refine tg_iconst C (nI 1) dX5_spell_89 90 rfl (by decide) ?_
      refine tg_iadd C (nI (n + 1)) dX5_spell_90 91 rfl (nI_add n 1) ?_
      refine tg_put (T := TX5) (N := 13) (Cn := RX5) C tyX5 tyX5_ok nmX5 89 (by decide) (e_89 ad cy _) rfl w1 2 (by decide) w0 rfl rfl (by decide +kernel) (Nat.le_of_ble_eq_true rfl) (e_89 ad cy _) dX5_spell_91 94 rfl ?_
      refine tg_aload_n C dX5_spell_94 95 rfl rfl 1 rfl ?_
      refine tg_get (T := TX5) (N := 13) (Cn := RX5) C 89 (by decide) (e_89 ad cy _) rfl w1 2 (by decide) w0 rfl rfl dX5_spell_95 98 rfl ?_
      refine tg_top (y := nI (n + 1)) (su_eq _ _ _ _) ?_
      exact hret dX5_spell_98 (Or.inr (Or.inr ⟨by first | (rw [show lnI x = nI 0 from if_pos c3]; exact m1_ne (by decide)) | (rw [show lnI x = x - nI 97 + nI 1 from (if_neg c3).trans (if_pos ⟨Int32.not_lt.mp c9, Int32.not_lt.mp c15⟩)]; exact lnI_n (Int32.not_lt.mp c9) (Int32.not_lt.mp c15)), by omega, rfl, by rw [hσ1]; first | (rw [show lnI x = nI 0 from if_pos c3]; done) | (rw [show lnI x = x - nI 97 + nI 1 from (if_neg c3).trans (if_pos ⟨Int32.not_lt.mp c9, Int32.not_lt.mp c15⟩)]; done)⟩))
    · -- on
      replace c39 : n = 16 := (nI_eq (by omega) (by omega)).mp c39
      refine tg_iconst C (nI 2) dX5_spell_42 43 rfl (by decide) ?_
      refine tg_goto C 47 dX5_spell_43 (by decide) ?_
      refine tg_put (T := TX5) (N := 13) (Cn := RX5) C tyX5 tyX5_ok nmX5 89 (by decide) (e_89 ad cy _) rfl w1 0 (by decide) w2 rfl rfl (by decide +kernel) (Nat.le_of_ble_eq_true rfl) (e_89 ad cy _) dX5_spell_47 50 rfl ?_
      refine tg_aload_n C dX5_spell_50 51 rfl rfl 1 rfl ?_
      refine tg_get (T := TX5) (N := 13) (Cn := RX5) C 89 (by decide) (e_89 ad cy _) rfl w1 0 (by decide) w2 rfl rfl dX5_spell_51 54 rfl ?_
      refine tg_top (y := nI 2) (su_eq _ _ _ _) ?_
      refine tg_if_le C 59 dX5_spell_54 (by decide) 57 rfl (fun c54 => absurd c54 (by decide)) (fun c54 => ?_)
      refine tg_iconst C (nI 0) dX5_spell_57 58 rfl (by decide) ?_
      exact hret dX5_spell_58 (Or.inr (Or.inl ⟨by first | (rw [show lnI x = nI 0 from if_pos c3]; exact m1_ne (by decide)) | (rw [show lnI x = x - nI 97 + nI 1 from (if_neg c3).trans (if_pos ⟨Int32.not_lt.mp c9, Int32.not_lt.mp c15⟩)]; exact lnI_n (Int32.not_lt.mp c9) (Int32.not_lt.mp c15)), by omega, rfl⟩))
  · -- on
    refine tg_iload_n C dX5_spell_6 7 rfl rfl 1 rfl ?_
    refine tg_bipush C (nI 97) dX5_spell_7 9 rfl (by decide) ?_
    refine tg_icmp_lt C 22 dX5_spell_9 (by decide) 12 rfl (fun c9 => ?_) (fun c9 => ?_)
    · -- to 22
      refine tg_iconst C (nI 0) dX5_spell_22 23 rfl (by decide) ?_
      refine tg_istore_n C dX5_spell_23 24 rfl rfl [(2, .int (nI 0)), (0, .ref (ad 89)), (1, .int x)] (by decide) rfl ?_
      refine tg_aload_n C dX5_spell_24 25 rfl rfl 1 rfl ?_
      refine tg_iload_n C dX5_spell_25 26 rfl rfl 0 rfl ?_
      refine tg_if_ne C 33 dX5_spell_26 (by decide) 29 rfl (fun c26 => absurd (by decide) c26) (fun c26 => ?_)
      refine tg_iconst C (nI 1) dX5_spell_29 30 rfl (by decide) ?_
      refine tg_goto C 47 dX5_spell_30 (by decide) ?_
      refine tg_put (T := TX5) (N := 13) (Cn := RX5) C tyX5 tyX5_ok nmX5 89 (by decide) (e_89 ad cy _) rfl w1 0 (by decide) w2 rfl rfl (by decide +kernel) (Nat.le_of_ble_eq_true rfl) (e_89 ad cy _) dX5_spell_47 50 rfl ?_
      refine tg_aload_n C dX5_spell_50 51 rfl rfl 1 rfl ?_
      refine tg_get (T := TX5) (N := 13) (Cn := RX5) C 89 (by decide) (e_89 ad cy _) rfl w1 0 (by decide) w2 rfl rfl dX5_spell_51 54 rfl ?_
      refine tg_top (y := nI 1) (su_eq _ _ _ _) ?_
      refine tg_if_le C 59 dX5_spell_54 (by decide) 57 rfl (fun c54 => absurd c54 (by decide)) (fun c54 => ?_)
      refine tg_iconst C (nI 0) dX5_spell_57 58 rfl (by decide) ?_
      exact hret dX5_spell_58 (Or.inl ⟨(if_neg c3).trans (if_neg (fun q => by first | exact absurd c9 (Int32.not_lt.mpr q.1) | exact absurd c15 (Int32.not_lt.mpr q.2))), rfl⟩)
    · -- on
      refine tg_iload_n C dX5_spell_12 13 rfl rfl 1 rfl ?_
      refine tg_bipush C (nI 101) dX5_spell_13 15 rfl (by decide) ?_
      refine tg_icmp_gt C 22 dX5_spell_15 (by decide) 18 rfl (fun c15 => ?_) (fun c15 => ?_)
      · -- to 22
        refine tg_iconst C (nI 0) dX5_spell_22 23 rfl (by decide) ?_
        refine tg_istore_n C dX5_spell_23 24 rfl rfl [(2, .int (nI 0)), (0, .ref (ad 89)), (1, .int x)] (by decide) rfl ?_
        refine tg_aload_n C dX5_spell_24 25 rfl rfl 1 rfl ?_
        refine tg_iload_n C dX5_spell_25 26 rfl rfl 0 rfl ?_
        refine tg_if_ne C 33 dX5_spell_26 (by decide) 29 rfl (fun c26 => absurd (by decide) c26) (fun c26 => ?_)
        refine tg_iconst C (nI 1) dX5_spell_29 30 rfl (by decide) ?_
        refine tg_goto C 47 dX5_spell_30 (by decide) ?_
        refine tg_put (T := TX5) (N := 13) (Cn := RX5) C tyX5 tyX5_ok nmX5 89 (by decide) (e_89 ad cy _) rfl w1 0 (by decide) w2 rfl rfl (by decide +kernel) (Nat.le_of_ble_eq_true rfl) (e_89 ad cy _) dX5_spell_47 50 rfl ?_
        refine tg_aload_n C dX5_spell_50 51 rfl rfl 1 rfl ?_
        refine tg_get (T := TX5) (N := 13) (Cn := RX5) C 89 (by decide) (e_89 ad cy _) rfl w1 0 (by decide) w2 rfl rfl dX5_spell_51 54 rfl ?_
        refine tg_top (y := nI 1) (su_eq _ _ _ _) ?_
        refine tg_if_le C 59 dX5_spell_54 (by decide) 57 rfl (fun c54 => absurd c54 (by decide)) (fun c54 => ?_)
        refine tg_iconst C (nI 0) dX5_spell_57 58 rfl (by decide) ?_
        exact hret dX5_spell_58 (Or.inl ⟨(if_neg c3).trans (if_neg (fun q => by first | exact absurd c9 (Int32.not_lt.mpr q.1) | exact absurd c15 (Int32.not_lt.mpr q.2))), rfl⟩)
      · -- on
        refine tg_iconst C (nI 1) dX5_spell_18 19 rfl (by decide) ?_
        refine tg_goto C 23 dX5_spell_19 (by decide) ?_
        refine tg_istore_n C dX5_spell_23 24 rfl rfl [(2, .int (nI 1)), (0, .ref (ad 89)), (1, .int x)] (by decide) rfl ?_
        refine tg_aload_n C dX5_spell_24 25 rfl rfl 1 rfl ?_
        refine tg_iload_n C dX5_spell_25 26 rfl rfl 0 rfl ?_
        refine tg_if_ne C 33 dX5_spell_26 (by decide) 29 rfl (fun c26 => ?_) (fun c26 => absurd c26 (by decide))
        refine tg_aload_n C dX5_spell_33 34 rfl rfl 1 rfl ?_
        refine tg_get (T := TX5) (N := 13) (Cn := RX5) C 89 (by decide) (e_89 ad cy _) rfl w1 2 (by decide) w0 rfl rfl dX5_spell_34 37 rfl ?_
        refine tg_top (y := nI n) (hM.1.1) ?_
        refine tg_bipush C (nI 16) dX5_spell_37 39 rfl (by decide) ?_
        refine tg_icmp_ne C 46 dX5_spell_39 (by decide) 42 rfl (fun c39 => ?_) (fun c39 => ?_)
        · -- to 46
          replace c39 : ¬ n = 16 := fun q => c39 ((nI_eq (by omega) (by omega)).mpr q)
          refine tg_iconst C (nI 0) dX5_spell_46 47 rfl (by decide) ?_
          refine tg_put (T := TX5) (N := 13) (Cn := RX5) C tyX5 tyX5_ok nmX5 89 (by decide) (e_89 ad cy _) rfl w1 0 (by decide) w2 rfl rfl (by decide +kernel) (Nat.le_of_ble_eq_true rfl) (e_89 ad cy _) dX5_spell_47 50 rfl ?_
          refine tg_aload_n C dX5_spell_50 51 rfl rfl 1 rfl ?_
          refine tg_get (T := TX5) (N := 13) (Cn := RX5) C 89 (by decide) (e_89 ad cy _) rfl w1 0 (by decide) w2 rfl rfl dX5_spell_51 54 rfl ?_
          refine tg_top (y := nI 0) (su_eq _ _ _ _) ?_
          refine tg_if_le C 59 dX5_spell_54 (by decide) 57 rfl (fun c54 => ?_) (fun c54 => absurd (by decide) c54)
          obtain ⟨σ1, hσ1⟩ : ∃ z : sS, z = su σ 89 0 (nI 0) := ⟨_, rfl⟩
          rw [← hσ1]
          have hM1 : MM σ1 n w tc mg pr tx nx nm wh wd kp := by rw [hσ1]; exact hM.th _
          refine tg_aload_n C dX5_spell_59 60 rfl rfl 1 rfl ?_
          refine tg_get (T := TX5) (N := 13) (Cn := RX5) C 89 (by decide) (e_89 ad cy _) rfl w1 1 (by decide) w3 rfl rfl dX5_spell_60 63 rfl ?_
          refine tg_aload_n C dX5_spell_63 64 rfl rfl 1 rfl ?_
          refine tg_get (T := TX5) (N := 13) (Cn := RX5) C 89 (by decide) (e_89 ad cy _) rfl w1 2 (by decide) w0 rfl rfl dX5_spell_64 67 rfl ?_
          refine tg_top (y := nI n) (hM1.1.1) ?_
          refine tg_iload_n C dX5_spell_67 68 rfl rfl 2 rfl ?_
          refine tg_bipush C (nI 32) dX5_spell_68 70 rfl (by decide) ?_
          refine tg_icmp_ne C 77 dX5_spell_70 (by decide) 73 rfl (fun c70 => ?_) (fun c70 => absurd c70 (c3))
          refine tg_iload_n C dX5_spell_77 78 rfl rfl 2 rfl ?_
          refine tg_bipush C (nI 97) dX5_spell_78 80 rfl (by decide) ?_
          refine tg_isub C (x - nI 97) dX5_spell_80 81 rfl (rfl) ?_
          refine tg_iconst C (nI 1) dX5_spell_81 82 rfl (by decide) ?_
          refine tg_iadd C (x - nI 97 + nI 1) dX5_spell_82 83 rfl (rfl) ?_
          refine tg_iast C 90 (by decide) (e_90 ad cy) n rfl (by omega) (by decide) dX5_spell_83 84 rfl ?_
          refine tg_aload_n C dX5_spell_84 85 rfl rfl 1 rfl ?_
          refine tg_dup C dX5_spell_85 86 rfl rfl ?_
          refine tg_get (T := TX5) (N := 13) (Cn := RX5) C 89 (by decide) (e_89 ad cy _) rfl w1 2 (by decide) w0 rfl rfl dX5_spell_86 89 rfl ?_
          refine tg_top (y := nI n) (by rw [su_ni _ _ _ (by decide)]; exact hM1.1.1) ?_
          refine tg_iconst C (nI 1) dX5_spell_89 90 rfl (by decide) ?_
          refine tg_iadd C (nI (n + 1)) dX5_spell_90 91 rfl (nI_add n 1) ?_
          refine tg_put (T := TX5) (N := 13) (Cn := RX5) C tyX5 tyX5_ok nmX5 89 (by decide) (e_89 ad cy _) rfl w1 2 (by decide) w0 rfl rfl (by decide +kernel) (Nat.le_of_ble_eq_true rfl) (e_89 ad cy _) dX5_spell_91 94 rfl ?_
          refine tg_aload_n C dX5_spell_94 95 rfl rfl 1 rfl ?_
          refine tg_get (T := TX5) (N := 13) (Cn := RX5) C 89 (by decide) (e_89 ad cy _) rfl w1 2 (by decide) w0 rfl rfl dX5_spell_95 98 rfl ?_
          refine tg_top (y := nI (n + 1)) (su_eq _ _ _ _) ?_
          exact hret dX5_spell_98 (Or.inr (Or.inr ⟨by first | (rw [show lnI x = nI 0 from if_pos c3]; exact m1_ne (by decide)) | (rw [show lnI x = x - nI 97 + nI 1 from (if_neg c3).trans (if_pos ⟨Int32.not_lt.mp c9, Int32.not_lt.mp c15⟩)]; exact lnI_n (Int32.not_lt.mp c9) (Int32.not_lt.mp c15)), by omega, rfl, by rw [hσ1]; first | (rw [show lnI x = nI 0 from if_pos c3]; done) | (rw [show lnI x = x - nI 97 + nI 1 from (if_neg c3).trans (if_pos ⟨Int32.not_lt.mp c9, Int32.not_lt.mp c15⟩)]; done)⟩))
        · -- on
          replace c39 : n = 16 := (nI_eq (by omega) (by omega)).mp c39
          refine tg_iconst C (nI 2) dX5_spell_42 43 rfl (by decide) ?_
          refine tg_goto C 47 dX5_spell_43 (by decide) ?_
          refine tg_put (T := TX5) (N := 13) (Cn := RX5) C tyX5 tyX5_ok nmX5 89 (by decide) (e_89 ad cy _) rfl w1 0 (by decide) w2 rfl rfl (by decide +kernel) (Nat.le_of_ble_eq_true rfl) (e_89 ad cy _) dX5_spell_47 50 rfl ?_
          refine tg_aload_n C dX5_spell_50 51 rfl rfl 1 rfl ?_
          refine tg_get (T := TX5) (N := 13) (Cn := RX5) C 89 (by decide) (e_89 ad cy _) rfl w1 0 (by decide) w2 rfl rfl dX5_spell_51 54 rfl ?_
          refine tg_top (y := nI 2) (su_eq _ _ _ _) ?_
          refine tg_if_le C 59 dX5_spell_54 (by decide) 57 rfl (fun c54 => absurd c54 (by decide)) (fun c54 => ?_)
          refine tg_iconst C (nI 0) dX5_spell_57 58 rfl (by decide) ?_
          exact hret dX5_spell_58 (Or.inr (Or.inl ⟨by first | (rw [show lnI x = nI 0 from if_pos c3]; exact m1_ne (by decide)) | (rw [show lnI x = x - nI 97 + nI 1 from (if_neg c3).trans (if_pos ⟨Int32.not_lt.mp c9, Int32.not_lt.mp c15⟩)]; exact lnI_n (Int32.not_lt.mp c9) (Int32.not_lt.mp c15)), by omega, rfl⟩))
set_option maxHeartbeats 4000000 in
set_option maxRecDepth 100000 in
theorem c_X5_slot (l : Launch) (D : va_G) (cy : Nat → ClassId) (ad : Nat → Nat) (hDis : Dis ad) (σ : sS) {n : Nat} {w : Nat → Nat} {tc mg pr tx nx : Nat} {nm wh wd : Nat → Nat} {kp : Nat → Nat → Nat} (hM : MM σ n w tc mg pr tx nx nm wh wd kp) {x : Int32} : Mi l yX5_slot wsX5_slot 0 0 D cy ad [.ref (ad 89), .int x] σ (fun r τ => r = bv (slt (σ 91) x tx) ∧ σ = τ) := by
  have w0 : Cond.fieldLink RX5 59 "TonguetellModel" "textMany" "I" ∈ wsX5_slot := by decide +kernel
  have w1 : ∀ w ∈ wsX50, w ∈ wsX5_slot := by decide +kernel
  have w2 : Cond.fieldLink RX5 20 "TonguetellModel" "numbers" "[I" ∈ wsX5_slot := by decide +kernel
  have hn16 := hM.1.2.1
  have htc5 := hM.2.1.2.2.2.1
  have htx := hM.2.2.2.2.1
  have hrc := rc_le hn16
  have hrn := hM.rn_lt
  have hwd := hM.wd_le
  have hmg := hM.2.1.2.2.2.2.1
  have hpr := hM.2.1.2.2.2.2.2
  have hnx := hM.2.2.2.2.2.1
  refine Mi.of (cc := cX5_slot) (nL := 4) (own := RX5) hDis (by decide) rfl [(0, .ref (ad 89)), (1, .int x)] rfl (Nat.le_of_ble_eq_true rfl) rfl ?_
  intro p e s m args below meth c A Q C hret
  refine tg_iconst C (-1) dX5_slot_0 1 rfl (by decide) ?_
  refine tg_istore_n C dX5_slot_1 2 rfl rfl [(2, .int ((-1))), (0, .ref (ad 89)), (1, .int x)] (by decide) rfl ?_
  refine tg_iconst C (nI 0) dX5_slot_2 3 rfl (by decide) ?_
  refine tg_istore_n C dX5_slot_3 4 rfl rfl [(3, .int (nI 0)), (2, .int ((-1))), (0, .ref (ad 89)), (1, .int x)] (by decide) rfl ?_
  have L4 : ∀ (n4 : Nat) (k e9 : Nat), (k ≤ tx ∧ e9 = slt (σ 91) x k) → tx - k < n4 → TT p l e (Rm 0 0) s m args below meth c D cy ad A 4 0 0 Q σ 4 [(0, .ref (ad 89)), (1, .int x), (2, .int (bv e9)), (3, .int (nI k))] [] := by
    intro n4
    induction n4 with
    | zero => intro k e9 _ hn4; exact absurd hn4 (Nat.not_lt_zero _)
    | succ n4 ih4 =>
      intro k e9 ⟨hk, he⟩ hn4
      refine tg_iload_n C dX5_slot_4 5 rfl rfl 3 rfl ?_
      refine tg_aload_n C dX5_slot_5 6 rfl rfl 0 rfl ?_
      refine tg_get (T := TX5) (N := 13) (Cn := RX5) C 89 (by decide) (e_89 ad cy _) rfl w1 6 (by decide) w0 rfl rfl dX5_slot_6 9 rfl ?_
      refine tg_top (y := nI tx) (hM.2.2.1) ?_
      refine tg_icmp_ge C 34 dX5_slot_9 (by decide) 12 rfl (fun c9 => ?_) (fun c9 => ?_)
      · -- to 34
        replace c9 : tx ≤ k := (nI_leI (by omega) (by omega)).mp c9
        refine tg_iload_n C dX5_slot_34 35 rfl rfl 2 rfl ?_
        exact hret dX5_slot_35 ⟨by rw [he, show k = tx by omega], rfl⟩
      · -- on
        replace c9 : ¬ tx ≤ k := fun q => c9 ((nI_leI (by omega) (by omega)).mpr q)
        refine tg_aload_n C dX5_slot_12 13 rfl rfl 0 rfl ?_
        refine tg_get (T := TX5) (N := 13) (Cn := RX5) C 89 (by decide) (e_89 ad cy _) rfl w1 8 (by decide) w2 rfl rfl dX5_slot_13 16 rfl ?_
        refine tg_iload_n C dX5_slot_16 17 rfl rfl 3 rfl ?_
        refine tg_iald C 91 (by decide) ((e_91 ad cy) _) k rfl (by omega) (by decide) dX5_slot_17 18 rfl ?_
        refine tg_iload_n C dX5_slot_18 19 rfl rfl 1 rfl ?_
        refine tg_icmp_ne C 26 dX5_slot_19 (by decide) 22 rfl (fun c19 => ?_) (fun c19 => ?_)
        · -- to 26
          refine tg_iload_n C dX5_slot_26 27 rfl rfl 2 rfl ?_
          refine tg_istore_n C dX5_slot_27 28 rfl rfl [(2, .int (bv e9)), (0, .ref (ad 89)), (1, .int x), (3, .int (nI k))] (by decide) rfl ?_
          refine tg_iinc C (nI (k + 1)) dX5_slot_28 31 rfl 3 rfl (nI_add k 1) [(3, .int (nI (k + 1))), (2, .int (bv e9)), (0, .ref (ad 89)), (1, .int x)] (by decide) rfl ?_
          refine tg_goto C 4 dX5_slot_31 (by decide) ?_
          refine tg_sub [2, 3, 1, 0] rfl ?_
          exact ih4 (k + 1) (e9) ⟨by omega, by rw [slt, if_neg c19, he]⟩ (by omega)
        · -- on
          refine tg_iload_n C dX5_slot_22 23 rfl rfl 3 rfl ?_
          refine tg_goto C 27 dX5_slot_23 (by decide) ?_
          refine tg_istore_n C dX5_slot_27 28 rfl rfl [(2, .int (nI k)), (0, .ref (ad 89)), (1, .int x), (3, .int (nI k))] (by decide) rfl ?_
          refine tg_iinc C (nI (k + 1)) dX5_slot_28 31 rfl 3 rfl (nI_add k 1) [(3, .int (nI (k + 1))), (2, .int (nI k)), (0, .ref (ad 89)), (1, .int x)] (by decide) rfl ?_
          refine tg_goto C 4 dX5_slot_31 (by decide) ?_
          refine tg_sub [2, 3, 1, 0] rfl ?_
          exact ih4 (k + 1) (k + 1) ⟨by omega, by rw [slt, if_pos c19]⟩ (by omega)
  refine tg_sub [2, 3, 1, 0] rfl ?_
  exact L4 _ 0 0 ⟨by omega, rfl⟩ (Nat.lt_succ_self _)
set_option maxHeartbeats 4000000 in
set_option maxRecDepth 100000 in
theorem c_X5_tongueOf (l : Launch) (D : va_G) (cy : Nat → ClassId) (ad : Nat → Nat) (hDis : Dis ad) (σ : sS) {n : Nat} {w : Nat → Nat} {tc mg pr tx nx : Nat} {nm wh wd : Nat → Nat} {kp : Nat → Nat → Nat} (hM : MM σ n w tc mg pr tx nx nm wh wd kp) {x : Int32} : Mi l yX5_tongueOf wsX5_tongueOf 1 23 D cy ad [.ref (ad 89), .int x] σ (fun r τ => (∃ s, slt (σ 91) x tx = s + 1 ∧ s < tx ∧ r = nI (wh s) ∧ τ = su σ 89 0 (nI 0)) ∨ (slt (σ 91) x tx = 0 ∧ τ = su σ 89 0 (nI 1))) := by
  have w0 : Cond.fieldLink RX5 35 "TonguetellModel" "thrown" "I" ∈ wsX5_tongueOf := by decide +kernel
  have w1 : ∀ w ∈ wsX50, w ∈ wsX5_tongueOf := by decide +kernel
  have w2 : Cond.fieldLink RX5 23 "TonguetellModel" "whose" "[I" ∈ wsX5_tongueOf := by decide +kernel
  have hn16 := hM.1.2.1
  have htc5 := hM.2.1.2.2.2.1
  have htx := hM.2.2.2.2.1
  have hrc := rc_le hn16
  have hrn := hM.rn_lt
  have hwd := hM.wd_le
  have hmg := hM.2.1.2.2.2.2.1
  have hpr := hM.2.1.2.2.2.2.2
  have hnx := hM.2.2.2.2.2.1
  have hsl := slt_le (σ 91) x tx
  refine Mi.of (cc := cX5_tongueOf) (nL := 3) (own := RX5) hDis (by decide) rfl [(0, .ref (ad 89)), (1, .int x)] rfl (Nat.le_of_ble_eq_true rfl) rfl ?_
  intro p e s m args below meth c A Q C hret
  refine tg_aload_n C dX5_tongueOf_0 1 rfl rfl 0 rfl ?_
  refine tg_iload_n C dX5_tongueOf_1 2 rfl rfl 1 rfl ?_
  refine tg_callVi C 89 (by decide) (e_89 ad cy _) rfl (c_X5_slot l D cy ad hDis σ hM (x := x)) (cwV 1 C.2.2.2.2.1 gX5_tongueOf_X5_slot rfl rfl rfl (by decide +kernel) ⟨Nat.le_of_ble_eq_true rfl, Nat.le_of_ble_eq_true rfl⟩) rfl rfl (Nat.le_of_ble_eq_true rfl) ⟨Nat.le_of_ble_eq_true rfl, Nat.le_of_ble_eq_true rfl⟩ dX5_tongueOf_2 5 rfl (fun r2 τ2 h2 => ?_)
  obtain ⟨h2, h2s⟩ := h2
  subst h2s
  subst h2
  refine tg_istore_n C dX5_tongueOf_5 6 rfl rfl [(2, .int (bv (slt (σ 91) x tx))), (0, .ref (ad 89)), (1, .int x)] (by decide) rfl ?_
  refine tg_aload_n C dX5_tongueOf_6 7 rfl rfl 1 rfl ?_
  refine tg_iload_n C dX5_tongueOf_7 8 rfl rfl 0 rfl ?_
  refine tg_iconst C (-1) dX5_tongueOf_8 9 rfl (by decide) ?_
  refine tg_icmp_ne C 16 dX5_tongueOf_9 (by decide) 12 rfl (fun c9 => ?_) (fun c9 => ?_)
  · -- to 16
    obtain ⟨s9, hs9⟩ : ∃ z, slt (σ 91) x tx = z + 1 := ⟨slt (σ 91) x tx - 1, by have : slt (σ 91) x tx ≠ 0 := fun h => c9 ((bv_m1 (by omega)).mpr h); omega⟩
    rw [hs9]
    refine tg_iconst C (nI 0) dX5_tongueOf_16 17 rfl (by decide) ?_
    refine tg_put (T := TX5) (N := 13) (Cn := RX5) C tyX5 tyX5_ok nmX5 89 (by decide) (e_89 ad cy _) rfl w1 0 (by decide) w0 rfl rfl (by decide +kernel) (Nat.le_of_ble_eq_true rfl) (e_89 ad cy _) dX5_tongueOf_17 20 rfl ?_
    refine tg_aload_n C dX5_tongueOf_20 21 rfl rfl 1 rfl ?_
    refine tg_get (T := TX5) (N := 13) (Cn := RX5) C 89 (by decide) (e_89 ad cy _) rfl w1 0 (by decide) w0 rfl rfl dX5_tongueOf_21 24 rfl ?_
    refine tg_top (y := nI 0) (su_eq _ _ _ _) ?_
    refine tg_if_le C 31 dX5_tongueOf_24 (by decide) 27 rfl (fun c24 => ?_) (fun c24 => absurd (by decide) c24)
    refine tg_sub (lv' := [(2, .int (nI s9)), (0, .ref (ad 89)), (1, .int x)]) [0, 1, 2] rfl ?_
    refine tg_aload_n C dX5_tongueOf_31 32 rfl rfl 1 rfl ?_
    refine tg_get (T := TX5) (N := 13) (Cn := RX5) C 89 (by decide) (e_89 ad cy _) rfl w1 9 (by decide) w2 rfl rfl dX5_tongueOf_32 35 rfl ?_
    refine tg_iload_n C dX5_tongueOf_35 36 rfl rfl 0 rfl ?_
    refine tg_iald C 92 (by decide) ((e_92 ad cy) _) s9 rfl (by omega) (by decide) dX5_tongueOf_36 37 rfl ?_
    refine tg_top (y := nI (wh s9)) (((hM.th (nI 0)).2.2.2.2.2.2 s9 (by omega)).2.1.1) ?_
    exact hret dX5_tongueOf_37 (Or.inl ⟨s9, hs9, by omega, rfl, rfl⟩)
  · -- on
    replace c9 := (bv_m1 (by omega)).mp c9
    refine tg_iconst C (nI 1) dX5_tongueOf_12 13 rfl (by decide) ?_
    refine tg_goto C 17 dX5_tongueOf_13 (by decide) ?_
    refine tg_put (T := TX5) (N := 13) (Cn := RX5) C tyX5 tyX5_ok nmX5 89 (by decide) (e_89 ad cy _) rfl w1 0 (by decide) w0 rfl rfl (by decide +kernel) (Nat.le_of_ble_eq_true rfl) (e_89 ad cy _) dX5_tongueOf_17 20 rfl ?_
    refine tg_aload_n C dX5_tongueOf_20 21 rfl rfl 1 rfl ?_
    refine tg_get (T := TX5) (N := 13) (Cn := RX5) C 89 (by decide) (e_89 ad cy _) rfl w1 0 (by decide) w0 rfl rfl dX5_tongueOf_21 24 rfl ?_
    refine tg_top (y := nI 1) (su_eq _ _ _ _) ?_
    refine tg_if_le C 31 dX5_tongueOf_24 (by decide) 27 rfl (fun c24 => absurd c24 (by decide)) (fun c24 => ?_)
    refine tg_iconst C (nI 0) dX5_tongueOf_27 28 rfl (by decide) ?_
    refine tg_goto C 37 dX5_tongueOf_28 (by decide) ?_
    exact hret dX5_tongueOf_37 (Or.inr ⟨c9, rfl⟩)
