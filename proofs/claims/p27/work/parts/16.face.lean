/-! ===== the class: what throws ===== -/
/-! ===== ranges ===== -/
def inR (x : Int32) (n : Nat) : Prop := ∃ k, k < n ∧ x = nI k
theorem inR_of {x : Int32} {n : Nat} (hn : n < 2 ^ 31) (h0 : ¬ x < 0) (h1 : x < nI n) : inR x n := by
  obtain ⟨j, hj, rfl⟩ := nI_of h0
  exact ⟨j, (nI_ltI hj hn).mp h1, rfl⟩
theorem inR_neg {x : Int32} {n : Nat} (hn : n < 2 ^ 31) (h : x < 0) : ¬ inR x n := fun ⟨k, hk, e⟩ => by
  rw [e] at h
  exact nI_pos (by omega) h
theorem inR_ge {x : Int32} {n : Nat} (hn : n < 2 ^ 31) (h : ¬ x < nI n) : ¬ inR x n := fun ⟨k, hk, e⟩ => by
  rw [e] at h
  exact h ((nI_ltI (by omega) hn).mpr hk)
theorem inR_le {x : Int32} {n : Nat} (hn : n + 1 < 2 ^ 31) (h0 : ¬ x < 0) (h1 : x ≤ nI n) : inR x (n + 1) := by
  obtain ⟨j, hj, rfl⟩ := nI_of h0
  exact ⟨j, by have := (nI_leI hj (by omega)).mp h1; omega, rfl⟩
theorem inR_gt {x : Int32} {n : Nat} (hn : n + 1 < 2 ^ 31) (h : ¬ x ≤ nI n) : ¬ inR x (n + 1) := fun ⟨k, hk, e⟩ => by
  rw [e] at h
  exact h ((nI_leI (by omega) (by omega)).mpr (by omega))
set_option maxHeartbeats 4000000 in
set_option maxRecDepth 100000 in
theorem c_X4_requireRunPlace (l : Launch) (hl0 : l.stackTraces = false) (D : va_G) (cy : Nat → ClassId) (ad : Nat → Nat) (hDis : Dis ad) (σ : sS) {n : Nat} {w : Nat → Nat} (hS : Sp σ n w) {x : Int32} : Xv l yX4_requireRunPlace wsX4_requireRunPlace 6 90 1 6 D cy ad [.ref (ad 0), .int x] σ (fun τ => inR x (rc n) ∧ σ = τ) (fun E τ => E = xIO ∧ ¬ inR x (rc n) ∧ σ = τ) := by
  have w0 : Cond.classLink RX4 185 xIO ∈ wsX4_requireRunPlace := by decide +kernel
  have w1 : Cond.initialized xIO ∈ wsX4_requireRunPlace := by decide +kernel
  have w2 : ∀ w ∈ (vx_atS RX4 189 xIO xNames).filter goodWord, w ∈ wsX4_requireRunPlace := by decide +kernel
  have w3 : Cond.fieldLink RX4 10 "Tonguetell" "spelled" "LTonguetell$Spelling;" ∈ wsX4_requireRunPlace := by decide +kernel
  have w4 : ∀ w ∈ wsX40, w ∈ wsX4_requireRunPlace := by decide +kernel
  have hn16 := hS.2.1
  have hrc := rc_le hn16
  have hrn := rn_lt (fun k h => (hS.2.2 k h).2)
  refine Xv.of (cc := cX4_requireRunPlace) (nL := 2) (own := RX4) hDis (by decide) rfl [(0, .ref (ad 0)), (1, .int x)] rfl (Nat.le_of_ble_eq_true rfl) rfl ?_
  intro p e s m args below meth c A Qc C hE hlk htab hret
  refine tg_iload_n C dX4_requireRunPlace_0 1 rfl rfl 1 rfl ?_
  refine tg_if_lt C 15 dX4_requireRunPlace_1 (by decide) 4 rfl (fun c1 => ?_) (fun c1 => ?_)
  · -- to 15
    exact xg_throw C hl0 hE xIO (by decide) (text := "the spelled text has no such run") (by decide +kernel) rfl (by decide) (by decide) w0 w1 w2 at_xIO (List.forall_mem_cons.mpr ⟨rfl, List.forall_mem_cons.mpr ⟨rfl, gd_xIO⟩⟩) dX4_requireRunPlace_15 dX4_requireRunPlace_18 dX4_requireRunPlace_19 dX4_requireRunPlace_21 dX4_requireRunPlace_24 htab (Nat.le_of_ble_eq_true rfl) (Nat.le_of_ble_eq_true rfl) (Nat.le_of_ble_eq_true rfl) (Nat.le_of_ble_eq_true rfl) hlk (Nat.le_of_ble_eq_true rfl) (Nat.le_of_ble_eq_true rfl) ⟨rfl, by first | exact inR_neg (by omega) c1 | exact inR_ge (by omega) c12, rfl⟩
  · -- on
    refine tg_iload_n C dX4_requireRunPlace_4 5 rfl rfl 1 rfl ?_
    refine tg_aload_n C dX4_requireRunPlace_5 6 rfl rfl 0 rfl ?_
    refine tg_get (T := TX4) (N := 8) (Cn := RX4) C 0 (by decide) (e_0 ad cy _) rfl w4 0 (by decide) w3 rfl rfl dX4_requireRunPlace_6 9 rfl ?_
    refine tg_callVi C 1 (by decide) (e_1 ad cy _) rfl (c_X2_runCount l D cy ad hDis σ hS) (cwV 0 C.2.2.2.2.1 gX4_requireRunPlace_X2_runCount rfl rfl rfl (by decide +kernel) ⟨Nat.le_of_ble_eq_true rfl, Nat.le_of_ble_eq_true rfl⟩) rfl rfl (Nat.le_of_ble_eq_true rfl) ⟨Nat.le_of_ble_eq_true rfl, Nat.le_of_ble_eq_true rfl⟩ dX4_requireRunPlace_9 12 rfl (fun r9 τ9 h9 => ?_)
    obtain ⟨h9, h9s⟩ := h9
    subst h9s
    subst h9
    refine tg_icmp_lt C 25 dX4_requireRunPlace_12 (by decide) 15 rfl (fun c12 => ?_) (fun c12 => ?_)
    · -- to 25
      exact hret (Nat.le_of_ble_eq_true rfl) (Nat.le_of_ble_eq_true rfl) dX4_requireRunPlace_25 ⟨inR_of (by omega) c1 c12, rfl⟩
    · -- on
      exact xg_throw C hl0 hE xIO (by decide) (text := "the spelled text has no such run") (by decide +kernel) rfl (by decide) (by decide) w0 w1 w2 at_xIO (List.forall_mem_cons.mpr ⟨rfl, List.forall_mem_cons.mpr ⟨rfl, gd_xIO⟩⟩) dX4_requireRunPlace_15 dX4_requireRunPlace_18 dX4_requireRunPlace_19 dX4_requireRunPlace_21 dX4_requireRunPlace_24 htab (Nat.le_of_ble_eq_true rfl) (Nat.le_of_ble_eq_true rfl) (Nat.le_of_ble_eq_true rfl) (Nat.le_of_ble_eq_true rfl) hlk (Nat.le_of_ble_eq_true rfl) (Nat.le_of_ble_eq_true rfl) ⟨rfl, by first | exact inR_neg (by omega) c1 | exact inR_ge (by omega) c12, rfl⟩
set_option maxHeartbeats 4000000 in
set_option maxRecDepth 100000 in
theorem c_X4_requireTongue (l : Launch) (hl0 : l.stackTraces = false) (D : va_G) (cy : Nat → ClassId) (ad : Nat → Nat) (hDis : Dis ad) (σ : sS) {tc mg pr : Nat} (hX : Xs σ tc mg pr) {x : Int32} : Xv l yX4_requireTongue wsX4_requireTongue 6 90 1 6 D cy ad [.ref (ad 0), .int x] σ (fun τ => inR x tc ∧ σ = τ) (fun E τ => E = xIO ∧ ¬ inR x tc ∧ σ = τ) := by
  have w0 : Cond.classLink RX4 185 xIO ∈ wsX4_requireTongue := by decide +kernel
  have w1 : Cond.initialized xIO ∈ wsX4_requireTongue := by decide +kernel
  have w2 : ∀ w ∈ (vx_atS RX4 189 xIO xNames).filter goodWord, w ∈ wsX4_requireTongue := by decide +kernel
  have w3 : Cond.fieldLink RX4 41 "Tonguetell" "tongueCount" "I" ∈ wsX4_requireTongue := by decide +kernel
  have w4 : ∀ w ∈ wsX40, w ∈ wsX4_requireTongue := by decide +kernel
  obtain ⟨hx1, hx2, hx3, hx4, hx5, hx6⟩ := id hX
  refine Xv.of (cc := cX4_requireTongue) (nL := 2) (own := RX4) hDis (by decide) rfl [(0, .ref (ad 0)), (1, .int x)] rfl (Nat.le_of_ble_eq_true rfl) rfl ?_
  intro p e s m args below meth c A Qc C hE hlk htab hret
  refine tg_iload_n C dX4_requireTongue_0 1 rfl rfl 1 rfl ?_
  refine tg_if_lt C 12 dX4_requireTongue_1 (by decide) 4 rfl (fun c1 => ?_) (fun c1 => ?_)
  · -- to 12
    exact xg_throw C hl0 hE xIO (by decide) (text := "there is no such tongue") (by decide +kernel) rfl (by decide) (by decide) w0 w1 w2 at_xIO (List.forall_mem_cons.mpr ⟨rfl, List.forall_mem_cons.mpr ⟨rfl, gd_xIO⟩⟩) dX4_requireTongue_12 dX4_requireTongue_15 dX4_requireTongue_16 dX4_requireTongue_18 dX4_requireTongue_21 htab (Nat.le_of_ble_eq_true rfl) (Nat.le_of_ble_eq_true rfl) (Nat.le_of_ble_eq_true rfl) (Nat.le_of_ble_eq_true rfl) hlk (Nat.le_of_ble_eq_true rfl) (Nat.le_of_ble_eq_true rfl) ⟨rfl, by first | exact inR_neg (by omega) c1 | exact inR_ge (by omega) c9, rfl⟩
  · -- on
    refine tg_iload_n C dX4_requireTongue_4 5 rfl rfl 1 rfl ?_
    refine tg_aload_n C dX4_requireTongue_5 6 rfl rfl 0 rfl ?_
    refine tg_get (T := TX4) (N := 8) (Cn := RX4) C 0 (by decide) (e_0 ad cy _) rfl w4 5 (by decide) w3 rfl rfl dX4_requireTongue_6 9 rfl ?_
    refine tg_top (y := nI tc) (hX.1) ?_
    refine tg_icmp_lt C 22 dX4_requireTongue_9 (by decide) 12 rfl (fun c9 => ?_) (fun c9 => ?_)
    · -- to 22
      exact hret (Nat.le_of_ble_eq_true rfl) (Nat.le_of_ble_eq_true rfl) dX4_requireTongue_22 ⟨inR_of (by omega) c1 c9, rfl⟩
    · -- on
      exact xg_throw C hl0 hE xIO (by decide) (text := "there is no such tongue") (by decide +kernel) rfl (by decide) (by decide) w0 w1 w2 at_xIO (List.forall_mem_cons.mpr ⟨rfl, List.forall_mem_cons.mpr ⟨rfl, gd_xIO⟩⟩) dX4_requireTongue_12 dX4_requireTongue_15 dX4_requireTongue_16 dX4_requireTongue_18 dX4_requireTongue_21 htab (Nat.le_of_ble_eq_true rfl) (Nat.le_of_ble_eq_true rfl) (Nat.le_of_ble_eq_true rfl) (Nat.le_of_ble_eq_true rfl) hlk (Nat.le_of_ble_eq_true rfl) (Nat.le_of_ble_eq_true rfl) ⟨rfl, by first | exact inR_neg (by omega) c1 | exact inR_ge (by omega) c9, rfl⟩
set_option maxHeartbeats 4000000 in
set_option maxRecDepth 100000 in
theorem c_X4_requireSomeTongue (l : Launch) (hl0 : l.stackTraces = false) (D : va_G) (cy : Nat → ClassId) (ad : Nat → Nat) (hDis : Dis ad) (σ : sS) {tc mg pr : Nat} (hX : Xs σ tc mg pr) : Xv l yX4_requireSomeTongue wsX4_requireSomeTongue 6 90 1 6 D cy ad [.ref (ad 0)] σ (fun τ => 0 < tc ∧ σ = τ) (fun E τ => E = xIS ∧ tc = 0 ∧ σ = τ) := by
  have w0 : Cond.fieldLink RX4 41 "Tonguetell" "tongueCount" "I" ∈ wsX4_requireSomeTongue := by decide +kernel
  have w1 : ∀ w ∈ wsX40, w ∈ wsX4_requireSomeTongue := by decide +kernel
  have w2 : Cond.classLink RX4 65 xIS ∈ wsX4_requireSomeTongue := by decide +kernel
  have w3 : Cond.initialized xIS ∈ wsX4_requireSomeTongue := by decide +kernel
  have w4 : ∀ w ∈ (vx_atS RX4 69 xIS xNames).filter goodWord, w ∈ wsX4_requireSomeTongue := by decide +kernel
  obtain ⟨hx1, hx2, hx3, hx4, hx5, hx6⟩ := id hX
  refine Xv.of (cc := cX4_requireSomeTongue) (nL := 1) (own := RX4) hDis (by decide) rfl [(0, .ref (ad 0))] rfl (Nat.le_of_ble_eq_true rfl) rfl ?_
  intro p e s m args below meth c A Qc C hE hlk htab hret
  refine tg_aload_n C dX4_requireSomeTongue_0 1 rfl rfl 0 rfl ?_
  refine tg_get (T := TX4) (N := 8) (Cn := RX4) C 0 (by decide) (e_0 ad cy _) rfl w1 5 (by decide) w0 rfl rfl dX4_requireSomeTongue_1 4 rfl ?_
  refine tg_top (y := nI tc) (hX.1) ?_
  refine tg_if_ne C 17 dX4_requireSomeTongue_4 (by decide) 7 rfl (fun c4 => ?_) (fun c4 => ?_)
  · -- to 17
    replace c4 : ¬ tc = 0 := fun q => c4 ((z_eq (by omega)).mpr q)
    exact hret (Nat.le_of_ble_eq_true rfl) (Nat.le_of_ble_eq_true rfl) dX4_requireSomeTongue_17 ⟨by omega, rfl⟩
  · -- on
    replace c4 : tc = 0 := (z_eq (by omega)).mp c4
    exact xg_throw C hl0 hE xIS (by decide) (text := "there are no tongues") (by decide +kernel) rfl (by decide) (by decide) w2 w3 w4 at_xIS (List.forall_mem_cons.mpr ⟨rfl, List.forall_mem_cons.mpr ⟨rfl, gd_xIS⟩⟩) dX4_requireSomeTongue_7 dX4_requireSomeTongue_10 dX4_requireSomeTongue_11 dX4_requireSomeTongue_13 dX4_requireSomeTongue_16 htab (Nat.le_of_ble_eq_true rfl) (Nat.le_of_ble_eq_true rfl) (Nat.le_of_ble_eq_true rfl) (Nat.le_of_ble_eq_true rfl) hlk (Nat.le_of_ble_eq_true rfl) (Nat.le_of_ble_eq_true rfl) ⟨rfl, by omega, rfl⟩
set_option maxHeartbeats 4000000 in
set_option maxRecDepth 100000 in
theorem c_X4_requireRunKind (l : Launch) (hl0 : l.stackTraces = false) (D : va_G) (cy : Nat → ClassId) (ad : Nat → Nat) (hDis : Dis ad) (σ : sS) {x : Int32} : Xv l yX4_requireRunKind wsX4_requireRunKind 6 90 1 6 D cy ad [.int x] σ (fun τ => inR x 36 ∧ σ = τ) (fun E τ => E = xIO ∧ ¬ inR x 36 ∧ σ = τ) := by
  have w0 : Cond.classLink RX4 185 xIO ∈ wsX4_requireRunKind := by decide +kernel
  have w1 : Cond.initialized xIO ∈ wsX4_requireRunKind := by decide +kernel
  have w2 : ∀ w ∈ (vx_atS RX4 189 xIO xNames).filter goodWord, w ∈ wsX4_requireRunKind := by decide +kernel
  refine Xv.of (cc := cX4_requireRunKind) (nL := 1) (own := RX4) hDis (by decide) rfl [(0, .int x)] rfl (Nat.le_of_ble_eq_true rfl) rfl ?_
  intro p e s m args below meth c A Qc C hE hlk htab hret
  refine tg_iload_n C dX4_requireRunKind_0 1 rfl rfl 0 rfl ?_
  refine tg_if_lt C 10 dX4_requireRunKind_1 (by decide) 4 rfl (fun c1 => ?_) (fun c1 => ?_)
  · -- to 10
    exact xg_throw C hl0 hE xIO (by decide) (text := "there is no such run") (by decide +kernel) rfl (by decide) (by decide) w0 w1 w2 at_xIO (List.forall_mem_cons.mpr ⟨rfl, List.forall_mem_cons.mpr ⟨rfl, gd_xIO⟩⟩) dX4_requireRunKind_10 dX4_requireRunKind_13 dX4_requireRunKind_14 dX4_requireRunKind_16 dX4_requireRunKind_19 htab (Nat.le_of_ble_eq_true rfl) (Nat.le_of_ble_eq_true rfl) (Nat.le_of_ble_eq_true rfl) (Nat.le_of_ble_eq_true rfl) hlk (Nat.le_of_ble_eq_true rfl) (Nat.le_of_ble_eq_true rfl) ⟨rfl, by first | exact inR_neg (by omega) c1 | exact inR_ge (by omega) c7, rfl⟩
  · -- on
    refine tg_iload_n C dX4_requireRunKind_4 5 rfl rfl 0 rfl ?_
    refine tg_bipush C (nI 36) dX4_requireRunKind_5 7 rfl (by decide) ?_
    refine tg_icmp_lt C 20 dX4_requireRunKind_7 (by decide) 10 rfl (fun c7 => ?_) (fun c7 => ?_)
    · -- to 20
      exact hret (Nat.le_of_ble_eq_true rfl) (Nat.le_of_ble_eq_true rfl) dX4_requireRunKind_20 ⟨inR_of (by omega) c1 c7, rfl⟩
    · -- on
      exact xg_throw C hl0 hE xIO (by decide) (text := "there is no such run") (by decide +kernel) rfl (by decide) (by decide) w0 w1 w2 at_xIO (List.forall_mem_cons.mpr ⟨rfl, List.forall_mem_cons.mpr ⟨rfl, gd_xIO⟩⟩) dX4_requireRunKind_10 dX4_requireRunKind_13 dX4_requireRunKind_14 dX4_requireRunKind_16 dX4_requireRunKind_19 htab (Nat.le_of_ble_eq_true rfl) (Nat.le_of_ble_eq_true rfl) (Nat.le_of_ble_eq_true rfl) (Nat.le_of_ble_eq_true rfl) hlk (Nat.le_of_ble_eq_true rfl) (Nat.le_of_ble_eq_true rfl) ⟨rfl, by first | exact inR_neg (by omega) c1 | exact inR_ge (by omega) c7, rfl⟩
set_option maxHeartbeats 4000000 in
set_option maxRecDepth 100000 in
theorem c_X4_slotOfTaught (l : Launch) (hl0 : l.stackTraces = false) (D : va_G) (cy : Nat → ClassId) (ad : Nat → Nat) (hDis : Dis ad) (σ : sS) {x : Int32} : Xi l yX4_slotOfTaught wsX4_slotOfTaught 6 90 1 6 D cy ad [.ref (ad 0), .int x] σ (fun r τ => r = nI (fsw (σ 17) x 30 0) ∧ ¬ x < 0 ∧ fsw (σ 17) x 30 0 < 30 ∧ σ = τ) (fun E τ => E = xNS ∧ (x < 0 ∨ fsw (σ 17) x 30 0 = 30) ∧ σ = τ) := by
  have w0 : Cond.fieldLink RX4 30 "Tonguetell" "shelf" "LTonguetell$Shelf;" ∈ wsX4_slotOfTaught := by decide +kernel
  have w1 : ∀ w ∈ wsX40, w ∈ wsX4_slotOfTaught := by decide +kernel
  have w2 : Cond.classLink RX4 199 xNS ∈ wsX4_slotOfTaught := by decide +kernel
  have w3 : Cond.initialized xNS ∈ wsX4_slotOfTaught := by decide +kernel
  have w4 : ∀ w ∈ (od_at RX4 203 xNS xNames).filter goodWord, w ∈ wsX4_slotOfTaught := by decide +kernel
  refine Xi.of (cc := cX4_slotOfTaught) (nL := 3) (own := RX4) hDis (by decide) rfl [(0, .ref (ad 0)), (1, .int x)] rfl (Nat.le_of_ble_eq_true rfl) rfl ?_
  intro p e s m args below meth c A Qc C hE hlk htab hret
  refine tg_aload_n C dX4_slotOfTaught_0 1 rfl rfl 0 rfl ?_
  refine tg_get (T := TX4) (N := 8) (Cn := RX4) C 0 (by decide) (e_0 ad cy _) rfl w1 3 (by decide) w0 rfl rfl dX4_slotOfTaught_1 4 rfl ?_
  refine tg_iload_n C dX4_slotOfTaught_4 5 rfl rfl 1 rfl ?_
  refine tg_callVi C 16 (by decide) (e_16 ad cy _) rfl (c_X1_slotOf l D cy ad hDis σ (x := x)) (cwV 1 C.2.2.2.2.1 gX4_slotOfTaught_X1_slotOf rfl rfl rfl (by decide +kernel) ⟨Nat.le_of_ble_eq_true rfl, Nat.le_of_ble_eq_true rfl⟩) rfl rfl (Nat.le_of_ble_eq_true rfl) ⟨Nat.le_of_ble_eq_true rfl, Nat.le_of_ble_eq_true rfl⟩ dX4_slotOfTaught_5 8 rfl (fun r5 τ5 h5 => ?_)
  obtain ⟨h5, h5s⟩ := h5
  subst h5s
  subst h5
  refine tg_istore_n C dX4_slotOfTaught_8 9 rfl rfl [(2, .int ((if x < 0 then -1 else fsI (σ 17) x))), (0, .ref (ad 0)), (1, .int x)] (by decide) rfl ?_
  refine tg_iload_n C dX4_slotOfTaught_9 10 rfl rfl 0 rfl ?_
  refine tg_iconst C (-1) dX4_slotOfTaught_10 11 rfl (by decide) ?_
  refine tg_icmp_ne C 24 dX4_slotOfTaught_11 (by decide) 14 rfl (fun c11 => ?_) (fun c11 => ?_)
  · -- to 24
    have h0 : ¬ x < 0 := fun q => c11 (if_pos q)
    rw [if_neg h0] at c11
    have h30 : fsw (σ 17) x 30 0 < 30 := by
      have := fsw_30 (σ 17) x
      have : fsw (σ 17) x 30 0 ≠ 30 := fun q => c11 (fsI_m1.mpr q)
      omega
    rw [if_neg h0, show fsI (σ 17) x = nI (fsw (σ 17) x 30 0) from if_neg (by omega)]
    refine tg_iload_n C dX4_slotOfTaught_24 25 rfl rfl 0 rfl ?_
    exact hret (Nat.le_of_ble_eq_true rfl) (Nat.le_of_ble_eq_true rfl) dX4_slotOfTaught_25 ⟨rfl, h0, h30, rfl⟩
  · -- on
    exact xg_throwO C hl0 hE xNS (by decide) (text := "no such text was taught, or it was withdrawn") (by decide +kernel) rfl (by decide) (by decide) w2 w3 w4 at_xNS (List.forall_mem_cons.mpr ⟨rfl, List.forall_mem_cons.mpr ⟨rfl, gd_xNS⟩⟩) dX4_slotOfTaught_14 dX4_slotOfTaught_17 dX4_slotOfTaught_18 dX4_slotOfTaught_20 dX4_slotOfTaught_23 htab (Nat.le_of_ble_eq_true rfl) (Nat.le_of_ble_eq_true rfl) (Nat.le_of_ble_eq_true rfl) (Nat.le_of_ble_eq_true rfl) hlk (Nat.le_of_ble_eq_true rfl) (Nat.le_of_ble_eq_true rfl) ⟨rfl, by by_cases h : x < 0; exact Or.inl h; rw [if_neg h] at c11; exact Or.inr (fsI_m1.mp c11), rfl⟩
set_option maxHeartbeats 4000000 in
set_option maxRecDepth 100000 in
theorem c_X4_spell (l : Launch) (hl0 : l.stackTraces = false) (D : va_G) (cy : Nat → ClassId) (ad : Nat → Nat) (hDis : Dis ad) (σ : sS) {n : Nat} {w : Nat → Nat} (hS : Sp σ n w) {x : Int32} : Xi l yX4_spell wsX4_spell 6 90 1 6 D cy ad [.ref (ad 0), .int x] σ (fun r τ => ¬ lnI x = -1 ∧ n < 16 ∧ r = nI (n + 1) ∧ τ = su (su σ 2 n (lnI x)) 1 1 (nI (n + 1))) (fun E τ => ((E = xIA ∧ lnI x = -1) ∨ (E = xIS ∧ ¬ lnI x = -1 ∧ 16 ≤ n)) ∧ σ = τ) := by
  have w0 : Cond.fieldLink RX4 10 "Tonguetell" "spelled" "LTonguetell$Spelling;" ∈ wsX4_spell := by decide +kernel
  have w1 : ∀ w ∈ wsX40, w ∈ wsX4_spell := by decide +kernel
  have w2 : Cond.fieldLink RX4 62 "Tonguetell$Spelling" "length" "I" ∈ wsX4_spell := by decide +kernel
  have w3 : ∀ w ∈ wsX20, w ∈ wsX4_spell := by decide +kernel
  have w4 : Cond.classLink RX4 65 xIS ∈ wsX4_spell := by decide +kernel
  have w5 : Cond.initialized xIS ∈ wsX4_spell := by decide +kernel
  have w6 : ∀ w ∈ (vx_atS RX4 69 xIS xNames).filter goodWord, w ∈ wsX4_spell := by decide +kernel
  have w7 : Cond.classLink RX4 55 xIA ∈ wsX4_spell := by decide +kernel
  have w8 : Cond.initialized xIA ∈ wsX4_spell := by decide +kernel
  have w9 : ∀ w ∈ (vx_atS RX4 59 xIA xNames).filter goodWord, w ∈ wsX4_spell := by decide +kernel
  have hn16 := hS.2.1
  have hrc := rc_le hn16
  have hrn := rn_lt (fun k h => (hS.2.2 k h).2)
  refine Xi.of (cc := cX4_spell) (nL := 3) (own := RX4) hDis (by decide) rfl [(0, .ref (ad 0)), (1, .int x)] rfl (Nat.le_of_ble_eq_true rfl) rfl ?_
  intro p e s m args below meth c A Qc C hE hlk htab hret
  refine tg_iload_n C dX4_spell_0 1 rfl rfl 1 rfl ?_
  refine tg_callSi C (c_X4_letterNumber l D cy ad hDis σ (x := x)) (cwS 1 C.2.2.2.2.1 gX4_spell_X4_letterNumber rfl rfl rfl (by decide +kernel) ⟨Nat.le_of_ble_eq_true rfl, Nat.le_of_ble_eq_true rfl⟩) rfl rfl (Nat.le_of_ble_eq_true rfl) ⟨Nat.le_of_ble_eq_true rfl, Nat.le_of_ble_eq_true rfl⟩ dX4_spell_1 4 rfl (fun r1 τ1 h1 => ?_)
  obtain ⟨h1, h1s⟩ := h1
  subst h1s
  subst h1
  refine tg_istore_n C dX4_spell_4 5 rfl rfl [(2, .int (lnI x)), (0, .ref (ad 0)), (1, .int x)] (by decide) rfl ?_
  refine tg_iload_n C dX4_spell_5 6 rfl rfl 0 rfl ?_
  refine tg_iconst C (-1) dX4_spell_6 7 rfl (by decide) ?_
  refine tg_icmp_ne C 20 dX4_spell_7 (by decide) 10 rfl (fun c7 => ?_) (fun c7 => ?_)
  · -- to 20
    refine tg_aload_n C dX4_spell_20 21 rfl rfl 1 rfl ?_
    refine tg_get (T := TX4) (N := 8) (Cn := RX4) C 0 (by decide) (e_0 ad cy _) rfl w1 0 (by decide) w0 rfl rfl dX4_spell_21 24 rfl ?_
    refine tg_get (T := TX2) (N := 2) (Cn := RX2) C 1 (by decide) (e_1 ad cy _) rfl w3 1 (by decide) w2 rfl rfl dX4_spell_24 27 rfl ?_
    refine tg_top (y := nI n) (hS.1) ?_
    refine tg_bipush C (nI 16) dX4_spell_27 29 rfl (by decide) ?_
    refine tg_icmp_lt C 42 dX4_spell_29 (by decide) 32 rfl (fun c29 => ?_) (fun c29 => ?_)
    · -- to 42
      replace c29 : n < 16 := (nI_ltI (by omega) (by omega)).mp c29
      refine tg_aload_n C dX4_spell_42 43 rfl rfl 1 rfl ?_
      refine tg_get (T := TX4) (N := 8) (Cn := RX4) C 0 (by decide) (e_0 ad cy _) rfl w1 0 (by decide) w0 rfl rfl dX4_spell_43 46 rfl ?_
      refine tg_iload_n C dX4_spell_46 47 rfl rfl 0 rfl ?_
      refine tg_callVv C 1 (by decide) (e_1 ad cy _) rfl (c_X2_append l D cy ad hDis σ hS.1 (by omega) (x := lnI x)) (cwV 1 C.2.2.2.2.1 gX4_spell_X2_append rfl rfl rfl (by decide +kernel) ⟨Nat.le_of_ble_eq_true rfl, Nat.le_of_ble_eq_true rfl⟩) rfl rfl (Nat.le_of_ble_eq_true rfl) ⟨Nat.le_of_ble_eq_true rfl, Nat.le_of_ble_eq_true rfl⟩ dX4_spell_47 50 rfl (fun τ47 h47 => ?_)
      refine tg_aload_n C dX4_spell_50 51 rfl rfl 1 rfl ?_
      refine tg_get (T := TX4) (N := 8) (Cn := RX4) C 0 (by decide) (e_0 ad cy _) rfl w1 0 (by decide) w0 rfl rfl dX4_spell_51 54 rfl ?_
      refine tg_get (T := TX2) (N := 2) (Cn := RX2) C 1 (by decide) (e_1 ad cy _) rfl w3 1 (by decide) w2 rfl rfl dX4_spell_54 57 rfl ?_
      refine tg_top (y := nI (n + 1)) (by rw [h47]; exact su_eq _ _ _ _) ?_
      exact hret (Nat.le_of_ble_eq_true rfl) (Nat.le_of_ble_eq_true rfl) dX4_spell_57 ⟨c7, by omega, rfl, h47⟩
    · -- on
      replace c29 : ¬ n < 16 := fun q => c29 ((nI_ltI (by omega) (by omega)).mpr q)
      exact xg_throw C hl0 hE xIS (by decide) (text := "the spelled text has 16 letters") (by decide +kernel) rfl (by decide) (by decide) w4 w5 w6 at_xIS (List.forall_mem_cons.mpr ⟨rfl, List.forall_mem_cons.mpr ⟨rfl, gd_xIS⟩⟩) dX4_spell_32 dX4_spell_35 dX4_spell_36 dX4_spell_38 dX4_spell_41 htab (Nat.le_of_ble_eq_true rfl) (Nat.le_of_ble_eq_true rfl) (Nat.le_of_ble_eq_true rfl) (Nat.le_of_ble_eq_true rfl) hlk (Nat.le_of_ble_eq_true rfl) (Nat.le_of_ble_eq_true rfl) ⟨Or.inr ⟨rfl, c7, by omega⟩, rfl⟩
  · -- on
    exact xg_throw C hl0 hE xIA (by decide) (text := "the letter is neither from a to e nor a space") (by decide +kernel) rfl (by decide) (by decide) w7 w8 w9 at_xIA (List.forall_mem_cons.mpr ⟨rfl, List.forall_mem_cons.mpr ⟨rfl, gd_xIA⟩⟩) dX4_spell_10 dX4_spell_13 dX4_spell_14 dX4_spell_16 dX4_spell_19 htab (Nat.le_of_ble_eq_true rfl) (Nat.le_of_ble_eq_true rfl) (Nat.le_of_ble_eq_true rfl) (Nat.le_of_ble_eq_true rfl) hlk (Nat.le_of_ble_eq_true rfl) (Nat.le_of_ble_eq_true rfl) ⟨Or.inl ⟨rfl, c7⟩, rfl⟩
set_option maxHeartbeats 4000000 in
set_option maxRecDepth 100000 in
theorem c_X4_runAt (l : Launch) (hl0 : l.stackTraces = false) (D : va_G) (cy : Nat → ClassId) (ad : Nat → Nat) (hDis : Dis ad) (σ : sS) {n : Nat} {w : Nat → Nat} (hS : Sp σ n w) {x : Int32} : Xi l yX4_runAt wsX4_runAt 7 111 1 6 D cy ad [.ref (ad 0), .int x] σ (fun r τ => (∃ k, k < rc n ∧ x = nI k ∧ r = nI (rn n w k)) ∧ σ = τ) (fun E τ => E = xIO ∧ ¬ inR x (rc n) ∧ σ = τ) := by
  have w0 : Cond.fieldLink RX4 10 "Tonguetell" "spelled" "LTonguetell$Spelling;" ∈ wsX4_runAt := by decide +kernel
  have w1 : ∀ w ∈ wsX40, w ∈ wsX4_runAt := by decide +kernel
  have hn16 := hS.2.1
  have hrc := rc_le hn16
  have hrn := rn_lt (fun k h => (hS.2.2 k h).2)
  refine Xi.of (cc := cX4_runAt) (nL := 2) (own := RX4) hDis (by decide) rfl [(0, .ref (ad 0)), (1, .int x)] rfl (Nat.le_of_ble_eq_true rfl) rfl ?_
  intro p e s m args below meth c A Qc C hE hlk htab hret
  refine tg_aload_n C dX4_runAt_0 1 rfl rfl 0 rfl ?_
  refine tg_iload_n C dX4_runAt_1 2 rfl rfl 1 rfl ?_
  refine xg_callVv C hE 0 (by decide) (e_0 ad cy _) rfl (c_X4_requireRunPlace l hl0 D cy ad hDis σ hS (x := x)) (cwV 1 C.2.2.2.2.1 gX4_runAt_X4_requireRunPlace rfl rfl rfl (by decide +kernel) ⟨(Nat.le_of_ble_eq_true rfl), (Nat.le_of_ble_eq_true rfl)⟩) rfl rfl (Nat.le_of_ble_eq_true rfl) ⟨(Nat.le_of_ble_eq_true rfl), (Nat.le_of_ble_eq_true rfl)⟩ dX4_runAt_2 5 rfl (fun E τx H locs ls ce q hq hP hS9 hl9 h1 h2 h3 => xg_out C hlk htab (Nat.le_of_ble_eq_true rfl) (Nat.le_of_ble_eq_true rfl) hP hS9 h1 h2 h3 hq) (fun τ2 h2 => ?_)
  obtain ⟨⟨k, hk, hxk⟩, h2s⟩ := h2
  subst h2s
  subst hxk
  refine tg_aload_n C dX4_runAt_5 6 rfl rfl 0 rfl ?_
  refine tg_get (T := TX4) (N := 8) (Cn := RX4) C 0 (by decide) (e_0 ad cy _) rfl w1 0 (by decide) w0 rfl rfl dX4_runAt_6 9 rfl ?_
  refine tg_iload_n C dX4_runAt_9 10 rfl rfl 1 rfl ?_
  refine tg_callVi C 1 (by decide) (e_1 ad cy _) rfl (c_X2_runNumber l D cy ad hDis σ hS (k := k) (by omega)) (cwV 1 C.2.2.2.2.1 gX4_runAt_X2_runNumber rfl rfl rfl (by decide +kernel) ⟨Nat.le_of_ble_eq_true rfl, Nat.le_of_ble_eq_true rfl⟩) rfl rfl (Nat.le_of_ble_eq_true rfl) ⟨Nat.le_of_ble_eq_true rfl, Nat.le_of_ble_eq_true rfl⟩ dX4_runAt_10 13 rfl (fun r10 τ10 h10 => ?_)
  obtain ⟨h10, h10s⟩ := h10
  subst h10s
  subst h10
  exact hret (Nat.le_of_ble_eq_true rfl) (Nat.le_of_ble_eq_true rfl) dX4_runAt_13 ⟨⟨k, hk, rfl, rfl⟩, rfl⟩
set_option maxHeartbeats 4000000 in
set_option maxRecDepth 100000 in
theorem c_X4_addTongue (l : Launch) (hl0 : l.stackTraces = false) (D : va_G) (cy : Nat → ClassId) (ad : Nat → Nat) (hDis : Dis ad) (σ : sS) {tc mg pr : Nat} (hX : Xs σ tc mg pr) : Xi l yX4_addTongue wsX4_addTongue 6 90 1 6 D cy ad [.ref (ad 0)] σ (fun r τ => tc < 5 ∧ r = nI tc ∧ τ = su σ 0 5 (nI (tc + 1))) (fun E τ => E = xIS ∧ tc = 5 ∧ σ = τ) := by
  have w0 : Cond.fieldLink RX4 41 "Tonguetell" "tongueCount" "I" ∈ wsX4_addTongue := by decide +kernel
  have w1 : ∀ w ∈ wsX40, w ∈ wsX4_addTongue := by decide +kernel
  have w2 : Cond.classLink RX4 65 xIS ∈ wsX4_addTongue := by decide +kernel
  have w3 : Cond.initialized xIS ∈ wsX4_addTongue := by decide +kernel
  have w4 : ∀ w ∈ (vx_atS RX4 69 xIS xNames).filter goodWord, w ∈ wsX4_addTongue := by decide +kernel
  obtain ⟨hx1, hx2, hx3, hx4, hx5, hx6⟩ := id hX
  refine Xi.of (cc := cX4_addTongue) (nL := 1) (own := RX4) hDis (by decide) rfl [(0, .ref (ad 0))] rfl (Nat.le_of_ble_eq_true rfl) rfl ?_
  intro p e s m args below meth c A Qc C hE hlk htab hret
  refine tg_aload_n C dX4_addTongue_0 1 rfl rfl 0 rfl ?_
  refine tg_get (T := TX4) (N := 8) (Cn := RX4) C 0 (by decide) (e_0 ad cy _) rfl w1 5 (by decide) w0 rfl rfl dX4_addTongue_1 4 rfl ?_
  refine tg_top (y := nI tc) (hX.1) ?_
  refine tg_iconst C (nI 5) dX4_addTongue_4 5 rfl (by decide) ?_
  refine tg_icmp_lt C 18 dX4_addTongue_5 (by decide) 8 rfl (fun c5 => ?_) (fun c5 => ?_)
  · -- to 18
    replace c5 : tc < 5 := (nI_ltI (by omega) (by omega)).mp c5
    refine tg_aload_n C dX4_addTongue_18 19 rfl rfl 0 rfl ?_
    refine tg_callVi C 0 (by decide) (e_0 ad cy _) rfl (c_X4_newTongue l D cy ad hDis σ hX) (cwV 0 C.2.2.2.2.1 gX4_addTongue_X4_newTongue rfl rfl rfl (by decide +kernel) ⟨Nat.le_of_ble_eq_true rfl, Nat.le_of_ble_eq_true rfl⟩) rfl rfl (Nat.le_of_ble_eq_true rfl) ⟨Nat.le_of_ble_eq_true rfl, Nat.le_of_ble_eq_true rfl⟩ dX4_addTongue_19 22 rfl (fun r19 τ19 h19 => ?_)
    obtain ⟨h19a, h19b⟩ := h19
    exact hret (Nat.le_of_ble_eq_true rfl) (Nat.le_of_ble_eq_true rfl) dX4_addTongue_22 ⟨by omega, h19a, h19b⟩
  · -- on
    replace c5 : ¬ tc < 5 := fun q => c5 ((nI_ltI (by omega) (by omega)).mpr q)
    exact xg_throw C hl0 hE xIS (by decide) (text := "there are 5 tongues") (by decide +kernel) rfl (by decide) (by decide) w2 w3 w4 at_xIS (List.forall_mem_cons.mpr ⟨rfl, List.forall_mem_cons.mpr ⟨rfl, gd_xIS⟩⟩) dX4_addTongue_8 dX4_addTongue_11 dX4_addTongue_12 dX4_addTongue_14 dX4_addTongue_17 htab (Nat.le_of_ble_eq_true rfl) (Nat.le_of_ble_eq_true rfl) (Nat.le_of_ble_eq_true rfl) (Nat.le_of_ble_eq_true rfl) hlk (Nat.le_of_ble_eq_true rfl) (Nat.le_of_ble_eq_true rfl) ⟨rfl, by omega, rfl⟩
set_option maxHeartbeats 4000000 in
set_option maxRecDepth 100000 in
theorem c_X4_total (l : Launch) (hl0 : l.stackTraces = false) (D : va_G) (cy : Nat → ClassId) (ad : Nat → Nat) (hDis : Dis ad) (σ : sS) {tc mg pr : Nat} (hX : Xs σ tc mg pr) {ct : Nat → Nat → Nat} {mt : Nat → Nat} (hT : Ta σ ct mt) {x : Int32} : Xi l yX4_total wsX4_total 7 111 1 6 D cy ad [.ref (ad 0), .int x] σ (fun r τ => (∃ t, t < tc ∧ x = nI t ∧ r = nI (mt t)) ∧ σ = τ) (fun E τ => E = xIO ∧ ¬ inR x tc ∧ σ = τ) := by
  have w0 : Cond.fieldLink RX4 23 "Tonguetell" "tallies" "[LTonguetell$Tally;" ∈ wsX4_total := by decide +kernel
  have w1 : ∀ w ∈ wsX40, w ∈ wsX4_total := by decide +kernel
  have w2 : Cond.fieldLink RX4 125 "Tonguetell$Tally" "sum" "I" ∈ wsX4_total := by decide +kernel
  have w3 : ∀ w ∈ wsX30, w ∈ wsX4_total := by decide +kernel
  obtain ⟨hx1, hx2, hx3, hx4, hx5, hx6⟩ := id hX
  refine Xi.of (cc := cX4_total) (nL := 2) (own := RX4) hDis (by decide) rfl [(0, .ref (ad 0)), (1, .int x)] rfl (Nat.le_of_ble_eq_true rfl) rfl ?_
  intro p e s m args below meth c A Qc C hE hlk htab hret
  refine tg_aload_n C dX4_total_0 1 rfl rfl 0 rfl ?_
  refine tg_iload_n C dX4_total_1 2 rfl rfl 1 rfl ?_
  refine xg_callVv C hE 0 (by decide) (e_0 ad cy _) rfl (c_X4_requireTongue l hl0 D cy ad hDis σ hX (x := x)) (cwV 1 C.2.2.2.2.1 gX4_total_X4_requireTongue rfl rfl rfl (by decide +kernel) ⟨(Nat.le_of_ble_eq_true rfl), (Nat.le_of_ble_eq_true rfl)⟩) rfl rfl (Nat.le_of_ble_eq_true rfl) ⟨(Nat.le_of_ble_eq_true rfl), (Nat.le_of_ble_eq_true rfl)⟩ dX4_total_2 5 rfl (fun E τx H locs ls ce q hq hP hS9 hl9 h1 h2 h3 => xg_out C hlk htab (Nat.le_of_ble_eq_true rfl) (Nat.le_of_ble_eq_true rfl) hP hS9 h1 h2 h3 hq) (fun τ2 h2 => ?_)
  obtain ⟨⟨t, ht, hxt⟩, h2s⟩ := h2
  subst h2s
  subst hxt
  refine tg_aload_n C dX4_total_5 6 rfl rfl 0 rfl ?_
  refine tg_get (T := TX4) (N := 8) (Cn := RX4) C 0 (by decide) (e_0 ad cy _) rfl w1 2 (by decide) w0 rfl rfl dX4_total_6 9 rfl ?_
  refine tg_iload_n C dX4_total_9 10 rfl rfl 1 rfl ?_
  refine tg_aald C 5 1 (by decide) (e_5 ad cy _) rfl rfl t rfl (by omega) (by decide) dX4_total_10 11 rfl ?_
  refine tg_get (T := TX3) (N := 2) (Cn := RX3) C (6 + t) (isTy.at (show t < 5 by omega)).lt ((isTy.at (show t < 5 by omega)).e ad cy _) rfl w3 1 (by decide) w2 rfl rfl dX4_total_11 14 rfl ?_
  refine tg_top (y := nI (mt t)) ((hT t (by omega)).1) ?_
  exact hret (Nat.le_of_ble_eq_true rfl) (Nat.le_of_ble_eq_true rfl) dX4_total_14 ⟨⟨t, ht, rfl, rfl⟩, rfl⟩
set_option maxHeartbeats 4000000 in
set_option maxRecDepth 100000 in
theorem c_X4_count (l : Launch) (hl0 : l.stackTraces = false) (D : va_G) (cy : Nat → ClassId) (ad : Nat → Nat) (hDis : Dis ad) (σ : sS) {tc mg pr : Nat} (hX : Xs σ tc mg pr) {ct : Nat → Nat → Nat} {mt : Nat → Nat} (hT : Ta σ ct mt) {x y : Int32} : Xi l yX4_count wsX4_count 7 111 2 12 D cy ad [.ref (ad 0), .int x, .int y] σ (fun r τ => (∃ t k, t < tc ∧ k < 36 ∧ x = nI t ∧ y = nI k ∧ r = nI (ct t k)) ∧ σ = τ) (fun E τ => E = xIO ∧ ¬ (inR x tc ∧ inR y 36) ∧ σ = τ) := by
  have w0 : Cond.fieldLink RX4 23 "Tonguetell" "tallies" "[LTonguetell$Tally;" ∈ wsX4_count := by decide +kernel
  have w1 : ∀ w ∈ wsX40, w ∈ wsX4_count := by decide +kernel
  have w2 : Cond.fieldLink RX4 131 "Tonguetell$Tally" "counts" "[I" ∈ wsX4_count := by decide +kernel
  have w3 : ∀ w ∈ wsX30, w ∈ wsX4_count := by decide +kernel
  obtain ⟨hx1, hx2, hx3, hx4, hx5, hx6⟩ := id hX
  refine Xi.of (cc := cX4_count) (nL := 3) (own := RX4) hDis (by decide) rfl [(0, .ref (ad 0)), (1, .int x), (2, .int y)] rfl (Nat.le_of_ble_eq_true rfl) rfl ?_
  intro p e s m args below meth c A Qc C hE hlk htab hret
  refine tg_aload_n C dX4_count_0 1 rfl rfl 0 rfl ?_
  refine tg_iload_n C dX4_count_1 2 rfl rfl 1 rfl ?_
  refine xg_callVv C hE 0 (by decide) (e_0 ad cy _) rfl (c_X4_requireTongue l hl0 D cy ad hDis σ hX (x := x)) (cwV 1 C.2.2.2.2.1 gX4_count_X4_requireTongue rfl rfl rfl (by decide +kernel) ⟨(Nat.le_of_ble_eq_true rfl), (Nat.le_of_ble_eq_true rfl)⟩) rfl rfl (Nat.le_of_ble_eq_true rfl) ⟨(Nat.le_of_ble_eq_true rfl), (Nat.le_of_ble_eq_true rfl)⟩ dX4_count_2 5 rfl (fun E τx H locs ls ce q hq hP hS9 hl9 h1 h2 h3 => xg_out C hlk htab (Nat.le_of_ble_eq_true rfl) (Nat.le_of_ble_eq_true rfl) hP hS9 h1 h2 h3 ⟨hq.1, fun q => hq.2.1 q.1, hq.2.2⟩) (fun τ2 h2 => ?_)
  obtain ⟨⟨t, ht, hxt⟩, h2s⟩ := h2
  subst h2s
  subst hxt
  refine tg_iload_n C dX4_count_5 6 rfl rfl 2 rfl ?_
  refine xg_callSv C hE (c_X4_requireRunKind l hl0 D cy ad hDis σ (x := y)) (cwS 1 C.2.2.2.2.1 gX4_count_X4_requireRunKind rfl rfl rfl (by decide +kernel) ⟨(Nat.le_of_ble_eq_true rfl), (Nat.le_of_ble_eq_true rfl)⟩) rfl rfl (Nat.le_of_ble_eq_true rfl) ⟨(Nat.le_of_ble_eq_true rfl), (Nat.le_of_ble_eq_true rfl)⟩ dX4_count_6 9 rfl (fun E τx H locs ls ce q hq hP hS9 hl9 h1 h2 h3 => xg_out C hlk htab (Nat.le_of_ble_eq_true rfl) (Nat.le_of_ble_eq_true rfl) hP hS9 h1 h2 h3 ⟨hq.1, fun q => hq.2.1 q.2, hq.2.2⟩) (fun τ6 h6 => ?_)
  obtain ⟨⟨k, hk, hxk⟩, h6s⟩ := h6
  subst h6s
  subst hxk
  refine tg_aload_n C dX4_count_9 10 rfl rfl 0 rfl ?_
  refine tg_get (T := TX4) (N := 8) (Cn := RX4) C 0 (by decide) (e_0 ad cy _) rfl w1 2 (by decide) w0 rfl rfl dX4_count_10 13 rfl ?_
  refine tg_iload_n C dX4_count_13 14 rfl rfl 1 rfl ?_
  refine tg_aald C 5 1 (by decide) (e_5 ad cy _) rfl rfl t rfl (by omega) (by decide) dX4_count_14 15 rfl ?_
  refine tg_get (T := TX3) (N := 2) (Cn := RX3) C (6 + t) (isTy.at (show t < 5 by omega)).lt ((isTy.at (show t < 5 by omega)).e ad cy _) rfl w3 0 (by decide) w2 rfl rfl dX4_count_15 18 rfl ?_
  refine tg_iload_n C dX4_count_18 19 rfl rfl 2 rfl ?_
  refine tg_iald C (11 + t) (isTy.at (show t < 5 by omega)).lt2 (((isTy.at (show t < 5 by omega)).e2 ad cy) _) k rfl (by omega) (by decide) dX4_count_19 20 rfl ?_
  refine tg_top (y := nI (ct t k)) (((hT t (by omega)).2.2 k hk).1) ?_
  exact hret (Nat.le_of_ble_eq_true rfl) (Nat.le_of_ble_eq_true rfl) dX4_count_20 ⟨⟨t, k, ht, hk, rfl, rfl, rfl⟩, rfl⟩
set_option maxHeartbeats 4000000 in
set_option maxRecDepth 100000 in
theorem c_X4_cost (l : Launch) (hl0 : l.stackTraces = false) (D : va_G) (cy : Nat → ClassId) (ad : Nat → Nat) (hDis : Dis ad) (σ : sS) {tc mg pr : Nat} (hX : Xs σ tc mg pr) {ct : Nat → Nat → Nat} {mt : Nat → Nat} (hT : Ta σ ct mt) {x y : Int32} : Xi l yX4_cost wsX4_cost 7 111 2 12 D cy ad [.ref (ad 0), .int x, .int y] σ (fun r τ => (∃ t k, t < tc ∧ k < 36 ∧ x = nI t ∧ y = nI k ∧ r = nI (costN (ct t k) (mt t))) ∧ σ = τ) (fun E τ => E = xIO ∧ ¬ (inR x tc ∧ inR y 36) ∧ σ = τ) := by
  have w0 : Cond.fieldLink RX4 23 "Tonguetell" "tallies" "[LTonguetell$Tally;" ∈ wsX4_cost := by decide +kernel
  have w1 : ∀ w ∈ wsX40, w ∈ wsX4_cost := by decide +kernel
  obtain ⟨hx1, hx2, hx3, hx4, hx5, hx6⟩ := id hX
  refine Xi.of (cc := cX4_cost) (nL := 3) (own := RX4) hDis (by decide) rfl [(0, .ref (ad 0)), (1, .int x), (2, .int y)] rfl (Nat.le_of_ble_eq_true rfl) rfl ?_
  intro p e s m args below meth c A Qc C hE hlk htab hret
  refine tg_aload_n C dX4_cost_0 1 rfl rfl 0 rfl ?_
  refine tg_iload_n C dX4_cost_1 2 rfl rfl 1 rfl ?_
  refine xg_callVv C hE 0 (by decide) (e_0 ad cy _) rfl (c_X4_requireTongue l hl0 D cy ad hDis σ hX (x := x)) (cwV 1 C.2.2.2.2.1 gX4_cost_X4_requireTongue rfl rfl rfl (by decide +kernel) ⟨(Nat.le_of_ble_eq_true rfl), (Nat.le_of_ble_eq_true rfl)⟩) rfl rfl (Nat.le_of_ble_eq_true rfl) ⟨(Nat.le_of_ble_eq_true rfl), (Nat.le_of_ble_eq_true rfl)⟩ dX4_cost_2 5 rfl (fun E τx H locs ls ce q hq hP hS9 hl9 h1 h2 h3 => xg_out C hlk htab (Nat.le_of_ble_eq_true rfl) (Nat.le_of_ble_eq_true rfl) hP hS9 h1 h2 h3 ⟨hq.1, fun q => hq.2.1 q.1, hq.2.2⟩) (fun τ2 h2 => ?_)
  obtain ⟨⟨t, ht, hxt⟩, h2s⟩ := h2
  subst h2s
  subst hxt
  refine tg_iload_n C dX4_cost_5 6 rfl rfl 2 rfl ?_
  refine xg_callSv C hE (c_X4_requireRunKind l hl0 D cy ad hDis σ (x := y)) (cwS 1 C.2.2.2.2.1 gX4_cost_X4_requireRunKind rfl rfl rfl (by decide +kernel) ⟨(Nat.le_of_ble_eq_true rfl), (Nat.le_of_ble_eq_true rfl)⟩) rfl rfl (Nat.le_of_ble_eq_true rfl) ⟨(Nat.le_of_ble_eq_true rfl), (Nat.le_of_ble_eq_true rfl)⟩ dX4_cost_6 9 rfl (fun E τx H locs ls ce q hq hP hS9 hl9 h1 h2 h3 => xg_out C hlk htab (Nat.le_of_ble_eq_true rfl) (Nat.le_of_ble_eq_true rfl) hP hS9 h1 h2 h3 ⟨hq.1, fun q => hq.2.1 q.2, hq.2.2⟩) (fun τ6 h6 => ?_)
  obtain ⟨⟨k, hk, hxk⟩, h6s⟩ := h6
  subst h6s
  subst hxk
  refine tg_aload_n C dX4_cost_9 10 rfl rfl 0 rfl ?_
  refine tg_get (T := TX4) (N := 8) (Cn := RX4) C 0 (by decide) (e_0 ad cy _) rfl w1 2 (by decide) w0 rfl rfl dX4_cost_10 13 rfl ?_
  refine tg_iload_n C dX4_cost_13 14 rfl rfl 1 rfl ?_
  refine tg_aald C 5 1 (by decide) (e_5 ad cy _) rfl rfl t rfl (by omega) (by decide) dX4_cost_14 15 rfl ?_
  refine tg_iload_n C dX4_cost_15 16 rfl rfl 2 rfl ?_
  refine tg_callVi C (6 + t) (isTy.at (show t < 5 by omega)).lt ((isTy.at (show t < 5 by omega)).e ad cy _) rfl (c_X3_costOf l D cy ad hDis σ (isTy.at (show t < 5 by omega)) (hT t (by omega)) (r9 := k) hk) (cwV 1 C.2.2.2.2.1 gX4_cost_X3_costOf rfl rfl rfl (by decide +kernel) ⟨Nat.le_of_ble_eq_true rfl, Nat.le_of_ble_eq_true rfl⟩) rfl rfl (Nat.le_of_ble_eq_true rfl) ⟨Nat.le_of_ble_eq_true rfl, Nat.le_of_ble_eq_true rfl⟩ dX4_cost_16 19 rfl (fun r16 τ16 h16 => ?_)
  obtain ⟨h16, h16s⟩ := h16
  subst h16s
  subst h16
  exact hret (Nat.le_of_ble_eq_true rfl) (Nat.le_of_ble_eq_true rfl) dX4_cost_19 ⟨⟨t, k, ht, hk, rfl, rfl, rfl⟩, rfl⟩
set_option maxHeartbeats 4000000 in
set_option maxRecDepth 100000 in
theorem c_X4_textCost (l : Launch) (hl0 : l.stackTraces = false) (D : va_G) (cy : Nat → ClassId) (ad : Nat → Nat) (hDis : Dis ad) (σ : sS) {tc mg pr : Nat} (hX : Xs σ tc mg pr) {n : Nat} {w : Nat → Nat} (hS : Sp σ n w) {ct : Nat → Nat → Nat} {mt : Nat → Nat} (hT : Ta σ ct mt) {x : Int32} : Xi l yX4_textCost wsX4_textCost 7 111 1 6 D cy ad [.ref (ad 0), .int x] σ (fun r τ => (∃ t, t < tc ∧ x = nI t ∧ r = nI (ctxN n w (ct t) (mt t))) ∧ σ = τ) (fun E τ => E = xIO ∧ ¬ inR x tc ∧ σ = τ) := by
  obtain ⟨hx1, hx2, hx3, hx4, hx5, hx6⟩ := id hX
  refine Xi.of (cc := cX4_textCost) (nL := 2) (own := RX4) hDis (by decide) rfl [(0, .ref (ad 0)), (1, .int x)] rfl (Nat.le_of_ble_eq_true rfl) rfl ?_
  intro p e s m args below meth c A Qc C hE hlk htab hret
  refine tg_aload_n C dX4_textCost_0 1 rfl rfl 0 rfl ?_
  refine tg_iload_n C dX4_textCost_1 2 rfl rfl 1 rfl ?_
  refine xg_callVv C hE 0 (by decide) (e_0 ad cy _) rfl (c_X4_requireTongue l hl0 D cy ad hDis σ hX (x := x)) (cwV 1 C.2.2.2.2.1 gX4_textCost_X4_requireTongue rfl rfl rfl (by decide +kernel) ⟨(Nat.le_of_ble_eq_true rfl), (Nat.le_of_ble_eq_true rfl)⟩) rfl rfl (Nat.le_of_ble_eq_true rfl) ⟨(Nat.le_of_ble_eq_true rfl), (Nat.le_of_ble_eq_true rfl)⟩ dX4_textCost_2 5 rfl (fun E τx H locs ls ce q hq hP hS9 hl9 h1 h2 h3 => xg_out C hlk htab (Nat.le_of_ble_eq_true rfl) (Nat.le_of_ble_eq_true rfl) hP hS9 h1 h2 h3 hq) (fun τ2 h2 => ?_)
  obtain ⟨⟨t, ht, hxt⟩, h2s⟩ := h2
  subst h2s
  subst hxt
  refine tg_aload_n C dX4_textCost_5 6 rfl rfl 0 rfl ?_
  refine tg_iload_n C dX4_textCost_6 7 rfl rfl 1 rfl ?_
  refine tg_callVi C 0 (by decide) (e_0 ad cy _) rfl (c_X4_costOfSpelled l D cy ad hDis σ hS hT (t := t) (by omega)) (cwV 1 C.2.2.2.2.1 gX4_textCost_X4_costOfSpelled rfl rfl rfl (by decide +kernel) ⟨Nat.le_of_ble_eq_true rfl, Nat.le_of_ble_eq_true rfl⟩) rfl rfl (Nat.le_of_ble_eq_true rfl) ⟨Nat.le_of_ble_eq_true rfl, Nat.le_of_ble_eq_true rfl⟩ dX4_textCost_7 10 rfl (fun r7 τ7 h7 => ?_)
  obtain ⟨h7, h7s⟩ := h7
  subst h7s
  subst h7
  exact hret (Nat.le_of_ble_eq_true rfl) (Nat.le_of_ble_eq_true rfl) dX4_textCost_10 ⟨⟨t, ht, rfl, rfl⟩, rfl⟩
set_option maxHeartbeats 4000000 in
set_option maxRecDepth 100000 in
theorem c_X4_setPrice (l : Launch) (hl0 : l.stackTraces = false) (D : va_G) (cy : Nat → ClassId) (ad : Nat → Nat) (hDis : Dis ad) (σ : sS) {tc mg pr : Nat} (hX : Xs σ tc mg pr) {x : Int32} : Xi l yX4_setPrice wsX4_setPrice 6 90 1 6 D cy ad [.ref (ad 0), .int x] σ (fun r τ => inR x 101 ∧ r = nI pr ∧ τ = su σ 0 7 x) (fun E τ => E = xIA ∧ ¬ inR x 101 ∧ σ = τ) := by
  have w0 : Cond.classLink RX4 55 xIA ∈ wsX4_setPrice := by decide +kernel
  have w1 : Cond.initialized xIA ∈ wsX4_setPrice := by decide +kernel
  have w2 : ∀ w ∈ (vx_atS RX4 59 xIA xNames).filter goodWord, w ∈ wsX4_setPrice := by decide +kernel
  have w3 : Cond.fieldLink RX4 48 "Tonguetell" "price" "I" ∈ wsX4_setPrice := by decide +kernel
  have w4 : ∀ w ∈ wsX40, w ∈ wsX4_setPrice := by decide +kernel
  refine Xi.of (cc := cX4_setPrice) (nL := 3) (own := RX4) hDis (by decide) rfl [(0, .ref (ad 0)), (1, .int x)] rfl (Nat.le_of_ble_eq_true rfl) rfl ?_
  intro p e s m args below meth c A Qc C hE hlk htab hret
  refine tg_iload_n C dX4_setPrice_0 1 rfl rfl 1 rfl ?_
  refine tg_if_lt C 10 dX4_setPrice_1 (by decide) 4 rfl (fun c1 => ?_) (fun c1 => ?_)
  · -- to 10
    exact xg_throw C hl0 hE xIA (by decide) (text := "the price is not from 0 to 100") (by decide +kernel) rfl (by decide) (by decide) w0 w1 w2 at_xIA (List.forall_mem_cons.mpr ⟨rfl, List.forall_mem_cons.mpr ⟨rfl, gd_xIA⟩⟩) dX4_setPrice_10 dX4_setPrice_13 dX4_setPrice_14 dX4_setPrice_16 dX4_setPrice_19 htab (Nat.le_of_ble_eq_true rfl) (Nat.le_of_ble_eq_true rfl) (Nat.le_of_ble_eq_true rfl) (Nat.le_of_ble_eq_true rfl) hlk (Nat.le_of_ble_eq_true rfl) (Nat.le_of_ble_eq_true rfl) ⟨rfl, by first | exact inR_neg (by decide) c1 | exact inR_gt (by decide) c7, rfl⟩
  · -- on
    refine tg_iload_n C dX4_setPrice_4 5 rfl rfl 1 rfl ?_
    refine tg_bipush C (nI 100) dX4_setPrice_5 7 rfl (by decide) ?_
    refine tg_icmp_le C 20 dX4_setPrice_7 (by decide) 10 rfl (fun c7 => ?_) (fun c7 => ?_)
    · -- to 20
      refine tg_aload_n C dX4_setPrice_20 21 rfl rfl 0 rfl ?_
      refine tg_get (T := TX4) (N := 8) (Cn := RX4) C 0 (by decide) (e_0 ad cy _) rfl w4 7 (by decide) w3 rfl rfl dX4_setPrice_21 24 rfl ?_
      refine tg_top (y := nI pr) (hX.2.2.1) ?_
      refine tg_istore_n C dX4_setPrice_24 25 rfl rfl [(2, .int (nI pr)), (0, .ref (ad 0)), (1, .int x)] (by decide) rfl ?_
      refine tg_aload_n C dX4_setPrice_25 26 rfl rfl 1 rfl ?_
      refine tg_iload_n C dX4_setPrice_26 27 rfl rfl 2 rfl ?_
      refine tg_put (T := TX4) (N := 8) (Cn := RX4) C tyX4 tyX4_ok nmX4 0 (by decide) (e_0 ad cy _) rfl w4 7 (by decide) w3 rfl rfl (by decide +kernel) (Nat.le_of_ble_eq_true rfl) (e_0 ad cy _) dX4_setPrice_27 30 rfl ?_
      refine tg_iload_n C dX4_setPrice_30 31 rfl rfl 0 rfl ?_
      exact hret (Nat.le_of_ble_eq_true rfl) (Nat.le_of_ble_eq_true rfl) dX4_setPrice_31 ⟨inR_le (by decide) c1 c7, rfl, rfl⟩
    · -- on
      exact xg_throw C hl0 hE xIA (by decide) (text := "the price is not from 0 to 100") (by decide +kernel) rfl (by decide) (by decide) w0 w1 w2 at_xIA (List.forall_mem_cons.mpr ⟨rfl, List.forall_mem_cons.mpr ⟨rfl, gd_xIA⟩⟩) dX4_setPrice_10 dX4_setPrice_13 dX4_setPrice_14 dX4_setPrice_16 dX4_setPrice_19 htab (Nat.le_of_ble_eq_true rfl) (Nat.le_of_ble_eq_true rfl) (Nat.le_of_ble_eq_true rfl) (Nat.le_of_ble_eq_true rfl) hlk (Nat.le_of_ble_eq_true rfl) (Nat.le_of_ble_eq_true rfl) ⟨rfl, by first | exact inR_neg (by decide) c1 | exact inR_gt (by decide) c7, rfl⟩
