/-! ===== the class: cuts, teaching, withdrawing, learning ===== -/
/-! ===== withdrawing and learning ===== -/
/-- how often run r is among the first i of the runs f -/
def cntF (f : Nat → Nat) (i r : Nat) : Nat := sm (fun k => if f k = r then 1 else 0) i
theorem cntF_step (f : Nat → Nat) (i r : Nat) : cntF f (i + 1) r = cntF f i r + (if f i = r then 1 else 0) := rfl
theorem cntF_le (f : Nat → Nat) (i r : Nat) : cntF f i r ≤ i := by
  have := sm_le (f := fun k => if f k = r then 1 else 0) (B := 1) i (fun k _ => by split <;> omega)
  unfold cntF
  omega
theorem cntF_mono (f : Nat → Nat) (r : Nat) : ∀ {i j : Nat}, i ≤ j → cntF f i r ≤ cntF f j r := by
  intro i j h
  induction h with
  | refl => exact Nat.le_refl _
  | step h ih => exact Nat.le_trans ih (by rw [cntF_step]; omega)
/-- one run more: longest, its end, length up to here -/
def lst (p : Nat × Nat × Nat) (f : Bool) (k : Nat) : Nat × Nat × Nat := if f = true then (if p.1 < p.2.2 + 1 then (p.2.2 + 1, k + 1, p.2.2 + 1) else (p.1, p.2.1, p.2.2 + 1)) else (p.1, p.2.1, 0)
def lrn (fit : Nat → Bool) : Nat → Nat × Nat × Nat
  | 0 => (0, 0, 0)
  | k + 1 => lst (lrn fit k) (fit k) k
/-- does the run at place k fit no tongue -/
def fitk (n : Nat) (w : Nat → Nat) (c : Nat → Nat → Nat) (m : Nat → Nat) (tc least k : Nat) : Bool := fitb (fun u => costN (c u (rn n w k)) (m u)) least tc
theorem lrn_a {fit : Nat → Bool} {k a b c : Nat} (h : lrn fit k = (a, b, c)) (hf : fit k = true) (hc : a < c + 1) : lrn fit (k + 1) = (c + 1, k + 1, c + 1) := by
  rw [lrn, h, hf]
  simp [lst, hc]
theorem lrn_b {fit : Nat → Bool} {k a b c : Nat} (h : lrn fit k = (a, b, c)) (hf : fit k = true) (hc : ¬ a < c + 1) : lrn fit (k + 1) = (a, b, c + 1) := by
  rw [lrn, h, hf]
  simp only [lst, if_true]
  rw [if_neg hc]
theorem lrn_c {fit : Nat → Bool} {k a b c : Nat} (h : lrn fit k = (a, b, c)) (hf : fit k = false) : lrn fit (k + 1) = (a, b, 0) := by
  rw [lrn, h, hf]
  simp [lst]
set_option maxHeartbeats 4000000 in
set_option maxRecDepth 100000 in
theorem c_X4_cutCost (l : Launch) (hl0 : l.stackTraces = false) (D : va_G) (cy : Nat → ClassId) (ad : Nat → Nat) (hDis : Dis ad) (σ : sS) {tc mg pr : Nat} (hX : Xs σ tc mg pr) {n : Nat} {w : Nat → Nat} (hS : Sp σ n w) {ct : Nat → Nat → Nat} {mt : Nat → Nat} (hT : Ta σ ct mt) : Xi l yX4_cutCost wsX4_cutCost 7 134 1 6 D cy ad [.ref (ad 0)] σ (fun r τ => 0 < tc ∧ r = nI (lb (kst n w ct mt) pr tc (rc n) (rc n) 0) ∧ ∀ j, (j < 51 ∨ 89 ≤ j) → τ j = σ j) (fun E τ => E = xIS ∧ tc = 0 ∧ σ = τ) := by
  have w0 : Cond.fieldLink RX4 37 "Tonguetell" "cutter" "LTonguetell$Cutter;" ∈ wsX4_cutCost := by decide +kernel
  have w1 : ∀ w ∈ wsX40, w ∈ wsX4_cutCost := by decide +kernel
  refine Xi.of (cc := cX4_cutCost) (nL := 1) (own := RX4) hDis (by decide) rfl [(0, .ref (ad 0))] rfl (Nat.le_of_ble_eq_true rfl) rfl ?_
  intro p e s m args below meth c A Qc C hE hlk htab hret
  refine tg_aload_n C dX4_cutCost_0 1 rfl rfl 0 rfl ?_
  refine xg_callVv C hE 0 (by decide) (e_0 ad cy _) rfl (c_X4_requireSomeTongue l hl0 D cy ad hDis σ hX) (cwV 0 C.2.2.2.2.1 gX4_cutCost_X4_requireSomeTongue rfl rfl rfl (by decide +kernel) ⟨(Nat.le_of_ble_eq_true rfl), (Nat.le_of_ble_eq_true rfl)⟩) rfl rfl (Nat.le_of_ble_eq_true rfl) ⟨(Nat.le_of_ble_eq_true rfl), (Nat.le_of_ble_eq_true rfl)⟩ dX4_cutCost_1 4 rfl (fun E τx H locs ls ce q hq hP hS9 hl9 h1 h2 h3 => xg_out C hlk htab (Nat.le_of_ble_eq_true rfl) (Nat.le_of_ble_eq_true rfl) hP hS9 h1 h2 h3 hq) (fun τ1 h1 => ?_)
  obtain ⟨htc, h1s⟩ := h1
  subst h1s
  refine tg_aload_n C dX4_cutCost_4 5 rfl rfl 0 rfl ?_
  refine tg_callVv C 0 (by decide) (e_0 ad cy _) rfl (c_X4_layCostsForCut l D cy ad hDis σ hX hS hT htc) (cwV 0 C.2.2.2.2.1 gX4_cutCost_X4_layCostsForCut rfl rfl rfl (by decide +kernel) ⟨Nat.le_of_ble_eq_true rfl, Nat.le_of_ble_eq_true rfl⟩) rfl rfl (Nat.le_of_ble_eq_true rfl) ⟨Nat.le_of_ble_eq_true rfl, Nat.le_of_ble_eq_true rfl⟩ dX4_cutCost_5 8 rfl (fun τ5 h5 => ?_)
  refine tg_aload_n C dX4_cutCost_8 9 rfl rfl 0 rfl ?_
  refine tg_get (T := TX4) (N := 8) (Cn := RX4) C 0 (by decide) (e_0 ad cy _) rfl w1 4 (by decide) w0 rfl rfl dX4_cutCost_9 12 rfl ?_
  refine tg_callVi C 51 (by decide) (e_51 ad cy _) rfl (c_X0_leastCost l D cy ad hDis τ5 h5.1 h5.2.1) (cwV 0 C.2.2.2.2.1 gX4_cutCost_X0_leastCost rfl rfl rfl (by decide +kernel) ⟨Nat.le_of_ble_eq_true rfl, Nat.le_of_ble_eq_true rfl⟩) rfl rfl (Nat.le_of_ble_eq_true rfl) ⟨Nat.le_of_ble_eq_true rfl, Nat.le_of_ble_eq_true rfl⟩ dX4_cutCost_12 15 rfl (fun r12 τ12 h12 => ?_)
  exact hret (Nat.le_of_ble_eq_true rfl) (Nat.le_of_ble_eq_true rfl) dX4_cutCost_15 ⟨htc, h12.1, fun j hj => (h12.2 j (by omega)).trans (h5.2.2 j (by omega) (by omega))⟩
set_option maxHeartbeats 4000000 in
set_option maxRecDepth 100000 in
theorem c_X4_cutCostByTrying (l : Launch) (hl0 : l.stackTraces = false) (D : va_G) (cy : Nat → ClassId) (ad : Nat → Nat) (hDis : Dis ad) (σ : sS) {tc mg pr : Nat} (hX : Xs σ tc mg pr) {n : Nat} {w : Nat → Nat} (hS : Sp σ n w) {ct : Nat → Nat → Nat} {mt : Nat → Nat} (hT : Ta σ ct mt) : Xi l yX4_cutCostByTrying wsX4_cutCostByTrying 8 195 2 12 D cy ad [.ref (ad 0)] σ (fun r τ => 0 < tc ∧ n ≤ 5 ∧ r = nI (lb (kst n w ct mt) pr tc (rc n) (rc n) 0) ∧ ∀ j, (j < 51 ∨ 89 ≤ j) → τ j = σ j) (fun E τ => E = xIS ∧ (tc = 0 ∨ 5 < n) ∧ σ = τ) := by
  have w0 : Cond.fieldLink RX4 10 "Tonguetell" "spelled" "LTonguetell$Spelling;" ∈ wsX4_cutCostByTrying := by decide +kernel
  have w1 : ∀ w ∈ wsX40, w ∈ wsX4_cutCostByTrying := by decide +kernel
  have w2 : Cond.fieldLink RX4 62 "Tonguetell$Spelling" "length" "I" ∈ wsX4_cutCostByTrying := by decide +kernel
  have w3 : ∀ w ∈ wsX20, w ∈ wsX4_cutCostByTrying := by decide +kernel
  have w4 : Cond.fieldLink RX4 37 "Tonguetell" "cutter" "LTonguetell$Cutter;" ∈ wsX4_cutCostByTrying := by decide +kernel
  have w5 : Cond.classLink RX4 65 xIS ∈ wsX4_cutCostByTrying := by decide +kernel
  have w6 : Cond.initialized xIS ∈ wsX4_cutCostByTrying := by decide +kernel
  have w7 : ∀ w ∈ (vx_atS RX4 69 xIS xNames).filter goodWord, w ∈ wsX4_cutCostByTrying := by decide +kernel
  have hn16 := hS.2.1
  have hrc := rc_le hn16
  have hrn := rn_lt (fun k h => (hS.2.2 k h).2)
  refine Xi.of (cc := cX4_cutCostByTrying) (nL := 1) (own := RX4) hDis (by decide) rfl [(0, .ref (ad 0))] rfl (Nat.le_of_ble_eq_true rfl) rfl ?_
  intro p e s m args below meth c A Qc C hE hlk htab hret
  refine tg_aload_n C dX4_cutCostByTrying_0 1 rfl rfl 0 rfl ?_
  refine xg_callVv C hE 0 (by decide) (e_0 ad cy _) rfl (c_X4_requireSomeTongue l hl0 D cy ad hDis σ hX) (cwV 0 C.2.2.2.2.1 gX4_cutCostByTrying_X4_requireSomeTongue rfl rfl rfl (by decide +kernel) ⟨(Nat.le_of_ble_eq_true rfl), (Nat.le_of_ble_eq_true rfl)⟩) rfl rfl (Nat.le_of_ble_eq_true rfl) ⟨(Nat.le_of_ble_eq_true rfl), (Nat.le_of_ble_eq_true rfl)⟩ dX4_cutCostByTrying_1 4 rfl (fun E τx H locs ls ce q hq hP hS9 hl9 h1 h2 h3 => xg_out C hlk htab (Nat.le_of_ble_eq_true rfl) (Nat.le_of_ble_eq_true rfl) hP hS9 h1 h2 h3 ⟨hq.1, Or.inl hq.2.1, hq.2.2⟩) (fun τ1 h1 => ?_)
  obtain ⟨htc, h1s⟩ := h1
  subst h1s
  refine tg_aload_n C dX4_cutCostByTrying_4 5 rfl rfl 0 rfl ?_
  refine tg_get (T := TX4) (N := 8) (Cn := RX4) C 0 (by decide) (e_0 ad cy _) rfl w1 0 (by decide) w0 rfl rfl dX4_cutCostByTrying_5 8 rfl ?_
  refine tg_get (T := TX2) (N := 2) (Cn := RX2) C 1 (by decide) (e_1 ad cy _) rfl w3 1 (by decide) w2 rfl rfl dX4_cutCostByTrying_8 11 rfl ?_
  refine tg_top (y := nI n) (hS.1) ?_
  refine tg_iconst C (nI 5) dX4_cutCostByTrying_11 12 rfl (by decide) ?_
  refine tg_icmp_le C 25 dX4_cutCostByTrying_12 (by decide) 15 rfl (fun c12 => ?_) (fun c12 => ?_)
  · -- to 25
    replace c12 : n ≤ 5 := (nI_leI (by omega) (by omega)).mp c12
    refine tg_aload_n C dX4_cutCostByTrying_25 26 rfl rfl 0 rfl ?_
    refine tg_callVv C 0 (by decide) (e_0 ad cy _) rfl (c_X4_layCostsForCut l D cy ad hDis σ hX hS hT htc) (cwV 0 C.2.2.2.2.1 gX4_cutCostByTrying_X4_layCostsForCut rfl rfl rfl (by decide +kernel) ⟨Nat.le_of_ble_eq_true rfl, Nat.le_of_ble_eq_true rfl⟩) rfl rfl (Nat.le_of_ble_eq_true rfl) ⟨Nat.le_of_ble_eq_true rfl, Nat.le_of_ble_eq_true rfl⟩ dX4_cutCostByTrying_26 29 rfl (fun τ26 h26 => ?_)
    refine tg_aload_n C dX4_cutCostByTrying_29 30 rfl rfl 0 rfl ?_
    refine tg_get (T := TX4) (N := 8) (Cn := RX4) C 0 (by decide) (e_0 ad cy _) rfl w1 4 (by decide) w4 rfl rfl dX4_cutCostByTrying_30 33 rfl ?_
    refine tg_callVi C 51 (by decide) (e_51 ad cy _) rfl (c_X0_leastCostByTrying l D cy ad hDis τ26 h26.1 h26.2.1 (by unfold rc; split <;> omega)) (cwV 0 C.2.2.2.2.1 gX4_cutCostByTrying_X0_leastCostByTrying rfl rfl rfl (by decide +kernel) ⟨Nat.le_of_ble_eq_true rfl, Nat.le_of_ble_eq_true rfl⟩) rfl rfl (Nat.le_of_ble_eq_true rfl) ⟨Nat.le_of_ble_eq_true rfl, Nat.le_of_ble_eq_true rfl⟩ dX4_cutCostByTrying_33 36 rfl (fun r33 τ33 h33 => ?_)
    obtain ⟨h33a, h33b⟩ := h33
    subst h33b
    exact hret (Nat.le_of_ble_eq_true rfl) (Nat.le_of_ble_eq_true rfl) dX4_cutCostByTrying_36 ⟨htc, by omega, h33a, fun j hj => h26.2.2 j (by omega) (by omega)⟩
  · -- on
    replace c12 : ¬ n ≤ 5 := fun q => c12 ((nI_leI (by omega) (by omega)).mpr q)
    exact xg_throw C hl0 hE xIS (by decide) (text := "the spelled text has more than 5 letters") (by decide +kernel) rfl (by decide) (by decide) w5 w6 w7 at_xIS (List.forall_mem_cons.mpr ⟨rfl, List.forall_mem_cons.mpr ⟨rfl, gd_xIS⟩⟩) dX4_cutCostByTrying_15 dX4_cutCostByTrying_18 dX4_cutCostByTrying_19 dX4_cutCostByTrying_21 dX4_cutCostByTrying_24 htab (Nat.le_of_ble_eq_true rfl) (Nat.le_of_ble_eq_true rfl) (Nat.le_of_ble_eq_true rfl) (Nat.le_of_ble_eq_true rfl) hlk (Nat.le_of_ble_eq_true rfl) (Nat.le_of_ble_eq_true rfl) ⟨rfl, Or.inr (by omega), rfl⟩
set_option maxHeartbeats 4000000 in
set_option maxRecDepth 100000 in
theorem c_X4_cutTongue (l : Launch) (hl0 : l.stackTraces = false) (D : va_G) (cy : Nat → ClassId) (ad : Nat → Nat) (hDis : Dis ad) (σ : sS) {tc mg pr : Nat} (hX : Xs σ tc mg pr) {n : Nat} {w : Nat → Nat} (hS : Sp σ n w) {ct : Nat → Nat → Nat} {mt : Nat → Nat} (hT : Ta σ ct mt) {x : Int32} : Xi l yX4_cutTongue wsX4_cutTongue 7 136 2 12 D cy ad [.ref (ad 0), .int x] σ (fun r τ => 0 < tc ∧ (∃ k, k < rc n ∧ x = nI k ∧ r = nI (tdb (kst n w ct mt) pr tc (rc n) (k + 1) - 1)) ∧ ∀ j, (j < 51 ∨ 89 ≤ j) → τ j = σ j) (fun E τ => ((E = xIS ∧ tc = 0) ∨ (E = xIO ∧ 0 < tc ∧ ¬ inR x (rc n))) ∧ σ = τ) := by
  have w0 : Cond.fieldLink RX4 37 "Tonguetell" "cutter" "LTonguetell$Cutter;" ∈ wsX4_cutTongue := by decide +kernel
  have w1 : ∀ w ∈ wsX40, w ∈ wsX4_cutTongue := by decide +kernel
  have w2 : Cond.fieldLink RX4 174 "Tonguetell$Cutter" "told" "[I" ∈ wsX4_cutTongue := by decide +kernel
  have w3 : ∀ w ∈ wsX00, w ∈ wsX4_cutTongue := by decide +kernel
  have hn16 := hS.2.1
  have hrc := rc_le hn16
  have hrn := rn_lt (fun k h => (hS.2.2 k h).2)
  refine Xi.of (cc := cX4_cutTongue) (nL := 2) (own := RX4) hDis (by decide) rfl [(0, .ref (ad 0)), (1, .int x)] rfl (Nat.le_of_ble_eq_true rfl) rfl ?_
  intro p e s m args below meth c A Qc C hE hlk htab hret
  refine tg_aload_n C dX4_cutTongue_0 1 rfl rfl 0 rfl ?_
  refine xg_callVv C hE 0 (by decide) (e_0 ad cy _) rfl (c_X4_requireSomeTongue l hl0 D cy ad hDis σ hX) (cwV 0 C.2.2.2.2.1 gX4_cutTongue_X4_requireSomeTongue rfl rfl rfl (by decide +kernel) ⟨(Nat.le_of_ble_eq_true rfl), (Nat.le_of_ble_eq_true rfl)⟩) rfl rfl (Nat.le_of_ble_eq_true rfl) ⟨(Nat.le_of_ble_eq_true rfl), (Nat.le_of_ble_eq_true rfl)⟩ dX4_cutTongue_1 4 rfl (fun E τx H locs ls ce q hq hP hS9 hl9 h1 h2 h3 => xg_out C hlk htab (Nat.le_of_ble_eq_true rfl) (Nat.le_of_ble_eq_true rfl) hP hS9 h1 h2 h3 ⟨Or.inl ⟨hq.1, hq.2.1⟩, hq.2.2⟩) (fun τ1 h1 => ?_)
  obtain ⟨htc, h1s⟩ := h1
  subst h1s
  refine tg_aload_n C dX4_cutTongue_4 5 rfl rfl 0 rfl ?_
  refine tg_iload_n C dX4_cutTongue_5 6 rfl rfl 1 rfl ?_
  refine xg_callVv C hE 0 (by decide) (e_0 ad cy _) rfl (c_X4_requireRunPlace l hl0 D cy ad hDis σ hS (x := x)) (cwV 1 C.2.2.2.2.1 gX4_cutTongue_X4_requireRunPlace rfl rfl rfl (by decide +kernel) ⟨(Nat.le_of_ble_eq_true rfl), (Nat.le_of_ble_eq_true rfl)⟩) rfl rfl (Nat.le_of_ble_eq_true rfl) ⟨(Nat.le_of_ble_eq_true rfl), (Nat.le_of_ble_eq_true rfl)⟩ dX4_cutTongue_6 9 rfl (fun E τx H locs ls ce q hq hP hS9 hl9 h1 h2 h3 => xg_out C hlk htab (Nat.le_of_ble_eq_true rfl) (Nat.le_of_ble_eq_true rfl) hP hS9 h1 h2 h3 ⟨Or.inr ⟨hq.1, htc, hq.2.1⟩, hq.2.2⟩) (fun τ6 h6 => ?_)
  obtain ⟨⟨k, hk, hxk⟩, h6s⟩ := h6
  subst h6s
  subst hxk
  refine tg_aload_n C dX4_cutTongue_9 10 rfl rfl 0 rfl ?_
  refine tg_callVv C 0 (by decide) (e_0 ad cy _) rfl (c_X4_layCostsForCut l D cy ad hDis σ hX hS hT htc) (cwV 0 C.2.2.2.2.1 gX4_cutTongue_X4_layCostsForCut rfl rfl rfl (by decide +kernel) ⟨Nat.le_of_ble_eq_true rfl, Nat.le_of_ble_eq_true rfl⟩) rfl rfl (Nat.le_of_ble_eq_true rfl) ⟨Nat.le_of_ble_eq_true rfl, Nat.le_of_ble_eq_true rfl⟩ dX4_cutTongue_10 13 rfl (fun τ10 h10 => ?_)
  refine tg_aload_n C dX4_cutTongue_13 14 rfl rfl 0 rfl ?_
  refine tg_get (T := TX4) (N := 8) (Cn := RX4) C 0 (by decide) (e_0 ad cy _) rfl w1 4 (by decide) w0 rfl rfl dX4_cutTongue_14 17 rfl ?_
  refine tg_callVv C 51 (by decide) (e_51 ad cy _) rfl (c_X0_findToldCut l D cy ad hDis τ10 h10.1 h10.2.1) (cwV 0 C.2.2.2.2.1 gX4_cutTongue_X0_findToldCut rfl rfl rfl (by decide +kernel) ⟨Nat.le_of_ble_eq_true rfl, Nat.le_of_ble_eq_true rfl⟩) rfl rfl (Nat.le_of_ble_eq_true rfl) ⟨Nat.le_of_ble_eq_true rfl, Nat.le_of_ble_eq_true rfl⟩ dX4_cutTongue_17 20 rfl (fun τ17 h17 => ?_)
  refine tg_aload_n C dX4_cutTongue_20 21 rfl rfl 0 rfl ?_
  refine tg_get (T := TX4) (N := 8) (Cn := RX4) C 0 (by decide) (e_0 ad cy _) rfl w1 4 (by decide) w0 rfl rfl dX4_cutTongue_21 24 rfl ?_
  refine tg_get (T := TX0) (N := 6) (Cn := RX0) C 51 (by decide) (e_51 ad cy _) rfl w3 1 (by decide) w2 rfl rfl dX4_cutTongue_24 27 rfl ?_
  refine tg_iload_n C dX4_cutTongue_27 28 rfl rfl 1 rfl ?_
  refine tg_iald C 70 (by decide) ((e_70 ad cy) _) k rfl (by omega) (by decide) dX4_cutTongue_28 29 rfl ?_
  refine tg_top (y := nI (tdb (kst n w ct mt) pr tc (rc n) (k + 1) - 1)) (h17.1 k hk) ?_
  exact hret (Nat.le_of_ble_eq_true rfl) (Nat.le_of_ble_eq_true rfl) dX4_cutTongue_29 ⟨htc, ⟨k, hk, rfl, rfl⟩, fun j hj => (h17.2 j (by omega) (by omega)).trans (h10.2.2 j (by omega) (by omega))⟩
set_option maxHeartbeats 4000000 in
set_option maxRecDepth 100000 in
theorem c_X4_stretches (l : Launch) (hl0 : l.stackTraces = false) (D : va_G) (cy : Nat → ClassId) (ad : Nat → Nat) (hDis : Dis ad) (σ : sS) {tc mg pr : Nat} (hX : Xs σ tc mg pr) {n : Nat} {w : Nat → Nat} (hS : Sp σ n w) {ct : Nat → Nat → Nat} {mt : Nat → Nat} (hT : Ta σ ct mt) : Xi l yX4_stretches wsX4_stretches 7 136 1 6 D cy ad [.ref (ad 0)] σ (fun r τ => 0 < tc ∧ r = nI (stc (fun i => tdb (kst n w ct mt) pr tc (rc n) (i + 1) - 1) (rc n)) ∧ ∀ j, (j < 51 ∨ 89 ≤ j) → τ j = σ j) (fun E τ => E = xIS ∧ tc = 0 ∧ σ = τ) := by
  have w0 : Cond.fieldLink RX4 37 "Tonguetell" "cutter" "LTonguetell$Cutter;" ∈ wsX4_stretches := by decide +kernel
  have w1 : ∀ w ∈ wsX40, w ∈ wsX4_stretches := by decide +kernel
  obtain ⟨hx1, hx2, hx3, hx4, hx5, hx6⟩ := id hX
  have hn16 := hS.2.1
  have hrc := rc_le hn16
  have hrn := rn_lt (fun k h => (hS.2.2 k h).2)
  refine Xi.of (cc := cX4_stretches) (nL := 1) (own := RX4) hDis (by decide) rfl [(0, .ref (ad 0))] rfl (Nat.le_of_ble_eq_true rfl) rfl ?_
  intro p e s m args below meth c A Qc C hE hlk htab hret
  refine tg_aload_n C dX4_stretches_0 1 rfl rfl 0 rfl ?_
  refine xg_callVv C hE 0 (by decide) (e_0 ad cy _) rfl (c_X4_requireSomeTongue l hl0 D cy ad hDis σ hX) (cwV 0 C.2.2.2.2.1 gX4_stretches_X4_requireSomeTongue rfl rfl rfl (by decide +kernel) ⟨(Nat.le_of_ble_eq_true rfl), (Nat.le_of_ble_eq_true rfl)⟩) rfl rfl (Nat.le_of_ble_eq_true rfl) ⟨(Nat.le_of_ble_eq_true rfl), (Nat.le_of_ble_eq_true rfl)⟩ dX4_stretches_1 4 rfl (fun E τx H locs ls ce q hq hP hS9 hl9 h1 h2 h3 => xg_out C hlk htab (Nat.le_of_ble_eq_true rfl) (Nat.le_of_ble_eq_true rfl) hP hS9 h1 h2 h3 hq) (fun τ1 h1 => ?_)
  obtain ⟨htc, h1s⟩ := h1
  subst h1s
  refine tg_aload_n C dX4_stretches_4 5 rfl rfl 0 rfl ?_
  refine tg_callVv C 0 (by decide) (e_0 ad cy _) rfl (c_X4_layCostsForCut l D cy ad hDis σ hX hS hT htc) (cwV 0 C.2.2.2.2.1 gX4_stretches_X4_layCostsForCut rfl rfl rfl (by decide +kernel) ⟨Nat.le_of_ble_eq_true rfl, Nat.le_of_ble_eq_true rfl⟩) rfl rfl (Nat.le_of_ble_eq_true rfl) ⟨Nat.le_of_ble_eq_true rfl, Nat.le_of_ble_eq_true rfl⟩ dX4_stretches_5 8 rfl (fun τ5 h5 => ?_)
  refine tg_aload_n C dX4_stretches_8 9 rfl rfl 0 rfl ?_
  refine tg_get (T := TX4) (N := 8) (Cn := RX4) C 0 (by decide) (e_0 ad cy _) rfl w1 4 (by decide) w0 rfl rfl dX4_stretches_9 12 rfl ?_
  refine tg_callVv C 51 (by decide) (e_51 ad cy _) rfl (c_X0_findToldCut l D cy ad hDis τ5 h5.1 h5.2.1) (cwV 0 C.2.2.2.2.1 gX4_stretches_X0_findToldCut rfl rfl rfl (by decide +kernel) ⟨Nat.le_of_ble_eq_true rfl, Nat.le_of_ble_eq_true rfl⟩) rfl rfl (Nat.le_of_ble_eq_true rfl) ⟨Nat.le_of_ble_eq_true rfl, Nat.le_of_ble_eq_true rfl⟩ dX4_stretches_12 15 rfl (fun τ12 h12 => ?_)
  refine tg_aload_n C dX4_stretches_15 16 rfl rfl 0 rfl ?_
  refine tg_get (T := TX4) (N := 8) (Cn := RX4) C 0 (by decide) (e_0 ad cy _) rfl w1 4 (by decide) w0 rfl rfl dX4_stretches_16 19 rfl ?_
  refine tg_callVi C 51 (by decide) (e_51 ad cy _) rfl (c_X0_stretchCount l D cy ad hDis τ12 (h5.1.fr (h12.2 51 (by decide) (by decide))) (u9 := fun i => tdb (kst n w ct mt) pr tc (rc n) (i + 1) - 1) (fun i hi => ⟨h12.1 i hi, by have := tdb_le (k := kst n w ct mt) (pr := pr) (N := rc n) htc (i + 1); show tdb (kst n w ct mt) pr tc (rc n) (i + 1) - 1 ≤ 5; omega⟩)) (cwV 0 C.2.2.2.2.1 gX4_stretches_X0_stretchCount rfl rfl rfl (by decide +kernel) ⟨Nat.le_of_ble_eq_true rfl, Nat.le_of_ble_eq_true rfl⟩) rfl rfl (Nat.le_of_ble_eq_true rfl) ⟨Nat.le_of_ble_eq_true rfl, Nat.le_of_ble_eq_true rfl⟩ dX4_stretches_19 22 rfl (fun r19 τ19 h19 => ?_)
  obtain ⟨h19a, h19b⟩ := h19
  subst h19b
  exact hret (Nat.le_of_ble_eq_true rfl) (Nat.le_of_ble_eq_true rfl) dX4_stretches_22 ⟨htc, h19a, fun j hj => (h12.2 j (by omega) (by omega)).trans (h5.2.2 j (by omega) (by omega))⟩
set_option maxHeartbeats 4000000 in
set_option maxRecDepth 100000 in
theorem c_X4_teach (l : Launch) (hl0 : l.stackTraces = false) (D : va_G) (cy : Nat → ClassId) (ad : Nat → Nat) (hDis : Dis ad) (σ : sS) {tc mg pr : Nat} (hX : Xs σ tc mg pr) {n : Nat} {w : Nat → Nat} (hS : Sp σ n w) {ct : Nat → Nat → Nat} {mt : Nat → Nat} (hT : Ta σ ct mt) {nx : Nat} (h4 : σ 16 4 = nI nx) (hnx : nx ≤ 10000) (hB : ∀ t, t < 5 → mt t ≤ 510 ∧ ∀ r, ct t r ≤ 510) {x : Int32} : Xi l yX4_teach wsX4_teach 7 111 2 12 D cy ad [.ref (ad 0), .int x] σ (fun r τ => ∃ t, t < tc ∧ x = nI t ∧ 0 < n ∧ fsw (σ 17) (-1) 30 0 < 30 ∧ r = nI nx ∧ Kept σ τ (fsw (σ 17) (-1) 30 0) nx t (rc n) 0 n w (ct t) (mt t)) (fun E τ => ((E = xIO ∧ ¬ inR x tc) ∨ (E = xIS ∧ inR x tc ∧ (n = 0 ∨ fsw (σ 17) (-1) 30 0 = 30))) ∧ σ = τ) := by
  have w0 : Cond.fieldLink RX4 10 "Tonguetell" "spelled" "LTonguetell$Spelling;" ∈ wsX4_teach := by decide +kernel
  have w1 : ∀ w ∈ wsX40, w ∈ wsX4_teach := by decide +kernel
  have w2 : Cond.fieldLink RX4 62 "Tonguetell$Spelling" "length" "I" ∈ wsX4_teach := by decide +kernel
  have w3 : ∀ w ∈ wsX20, w ∈ wsX4_teach := by decide +kernel
  have w4 : Cond.fieldLink RX4 30 "Tonguetell" "shelf" "LTonguetell$Shelf;" ∈ wsX4_teach := by decide +kernel
  have w5 : Cond.classLink RX4 65 xIS ∈ wsX4_teach := by decide +kernel
  have w6 : Cond.initialized xIS ∈ wsX4_teach := by decide +kernel
  have w7 : ∀ w ∈ (vx_atS RX4 69 xIS xNames).filter goodWord, w ∈ wsX4_teach := by decide +kernel
  obtain ⟨hx1, hx2, hx3, hx4, hx5, hx6⟩ := id hX
  have hn16 := hS.2.1
  have hrc := rc_le hn16
  have hrn := rn_lt (fun k h => (hS.2.2 k h).2)
  refine Xi.of (cc := cX4_teach) (nL := 2) (own := RX4) hDis (by decide) rfl [(0, .ref (ad 0)), (1, .int x)] rfl (Nat.le_of_ble_eq_true rfl) rfl ?_
  intro p e s m args below meth c A Qc C hE hlk htab hret
  refine tg_aload_n C dX4_teach_0 1 rfl rfl 0 rfl ?_
  refine tg_iload_n C dX4_teach_1 2 rfl rfl 1 rfl ?_
  refine xg_callVv C hE 0 (by decide) (e_0 ad cy _) rfl (c_X4_requireTongue l hl0 D cy ad hDis σ hX (x := x)) (cwV 1 C.2.2.2.2.1 gX4_teach_X4_requireTongue rfl rfl rfl (by decide +kernel) ⟨(Nat.le_of_ble_eq_true rfl), (Nat.le_of_ble_eq_true rfl)⟩) rfl rfl (Nat.le_of_ble_eq_true rfl) ⟨(Nat.le_of_ble_eq_true rfl), (Nat.le_of_ble_eq_true rfl)⟩ dX4_teach_2 5 rfl (fun E τx H locs ls ce q hq hP hS9 hl9 h1 h2 h3 => xg_out C hlk htab (Nat.le_of_ble_eq_true rfl) (Nat.le_of_ble_eq_true rfl) hP hS9 h1 h2 h3 ⟨Or.inl ⟨hq.1, hq.2.1⟩, hq.2.2⟩) (fun τ2 h2 => ?_)
  obtain ⟨⟨t, ht, hxt⟩, h2s⟩ := h2
  subst h2s
  subst hxt
  refine tg_aload_n C dX4_teach_5 6 rfl rfl 0 rfl ?_
  refine tg_get (T := TX4) (N := 8) (Cn := RX4) C 0 (by decide) (e_0 ad cy _) rfl w1 0 (by decide) w0 rfl rfl dX4_teach_6 9 rfl ?_
  refine tg_get (T := TX2) (N := 2) (Cn := RX2) C 1 (by decide) (e_1 ad cy _) rfl w3 1 (by decide) w2 rfl rfl dX4_teach_9 12 rfl ?_
  refine tg_top (y := nI n) (hS.1) ?_
  refine tg_if_ne C 25 dX4_teach_12 (by decide) 15 rfl (fun c12 => ?_) (fun c12 => ?_)
  · -- to 25
    replace c12 : ¬ n = 0 := fun q => c12 ((z_eq (by omega)).mpr q)
    refine tg_aload_n C dX4_teach_25 26 rfl rfl 0 rfl ?_
    refine tg_get (T := TX4) (N := 8) (Cn := RX4) C 0 (by decide) (e_0 ad cy _) rfl w1 3 (by decide) w4 rfl rfl dX4_teach_26 29 rfl ?_
    refine tg_callVi C 16 (by decide) (e_16 ad cy _) rfl (c_X1_isFull l D cy ad hDis σ) (cwV 0 C.2.2.2.2.1 gX4_teach_X1_isFull rfl rfl rfl (by decide +kernel) ⟨Nat.le_of_ble_eq_true rfl, Nat.le_of_ble_eq_true rfl⟩) rfl rfl (Nat.le_of_ble_eq_true rfl) ⟨Nat.le_of_ble_eq_true rfl, Nat.le_of_ble_eq_true rfl⟩ dX4_teach_29 32 rfl (fun r29 τ29 h29 => ?_)
    obtain ⟨h29, h29s⟩ := h29
    subst h29s
    subst h29
    refine tg_if_eq C 45 dX4_teach_32 (by decide) 35 rfl (fun c32 => ?_) (fun c32 => ?_)
    · -- to 45
      replace c32 : ¬ fsw (σ 17) (-1) 30 0 = 30 := fun q => by rw [if_pos q] at c32; exact absurd c32 (by decide)
      have hs30 := fsw_30 (σ 17) (-1)
      refine tg_aload_n C dX4_teach_45 46 rfl rfl 0 rfl ?_
      refine tg_iload_n C dX4_teach_46 47 rfl rfl 1 rfl ?_
      refine tg_iconst C (nI 0) dX4_teach_47 48 rfl (by decide) ?_
      refine tg_aload_n C dX4_teach_48 49 rfl rfl 0 rfl ?_
      refine tg_get (T := TX4) (N := 8) (Cn := RX4) C 0 (by decide) (e_0 ad cy _) rfl w1 0 (by decide) w0 rfl rfl dX4_teach_49 52 rfl ?_
      refine tg_callVi C 1 (by decide) (e_1 ad cy _) rfl (c_X2_runCount l D cy ad hDis σ hS) (cwV 0 C.2.2.2.2.1 gX4_teach_X2_runCount rfl rfl rfl (by decide +kernel) ⟨Nat.le_of_ble_eq_true rfl, Nat.le_of_ble_eq_true rfl⟩) rfl rfl (Nat.le_of_ble_eq_true rfl) ⟨Nat.le_of_ble_eq_true rfl, Nat.le_of_ble_eq_true rfl⟩ dX4_teach_52 55 rfl (fun r52 τ52 h52 => ?_)
      obtain ⟨h52, h52s⟩ := h52
      subst h52s
      subst h52
      have hb5 := hB t (by omega)
      refine tg_callVi C 0 (by decide) (e_0 ad cy _) rfl (c_X4_teachRuns l D cy ad hDis σ hS hT (t := t) (f9 := 0) (ln := rc n) (s9 := fsw (σ 17) (-1) 30 0) (nx := nx) (by omega) (by omega) rfl (by omega) h4 hnx hb5.1 hb5.2) (cwV 3 C.2.2.2.2.1 gX4_teach_X4_teachRuns rfl rfl rfl (by decide +kernel) ⟨Nat.le_of_ble_eq_true rfl, Nat.le_of_ble_eq_true rfl⟩) rfl rfl (Nat.le_of_ble_eq_true rfl) ⟨Nat.le_of_ble_eq_true rfl, Nat.le_of_ble_eq_true rfl⟩ dX4_teach_55 58 rfl (fun r55 τ55 h55 => ?_)
      exact hret (Nat.le_of_ble_eq_true rfl) (Nat.le_of_ble_eq_true rfl) dX4_teach_58 ⟨t, ht, rfl, by omega, by omega, h55.1, h55.2⟩
    · -- on
      replace c32 : fsw (σ 17) (-1) 30 0 = 30 := by
        by_cases q : fsw (σ 17) (-1) 30 0 = 30
        · exact q
        · exact absurd (if_neg q) c32
      exact xg_throw C hl0 hE xIS (by decide) (text := "30 texts are taught and not withdrawn") (by decide +kernel) rfl (by decide) (by decide) w5 w6 w7 at_xIS (List.forall_mem_cons.mpr ⟨rfl, List.forall_mem_cons.mpr ⟨rfl, gd_xIS⟩⟩) dX4_teach_35 dX4_teach_38 dX4_teach_39 dX4_teach_41 dX4_teach_44 htab (Nat.le_of_ble_eq_true rfl) (Nat.le_of_ble_eq_true rfl) (Nat.le_of_ble_eq_true rfl) (Nat.le_of_ble_eq_true rfl) hlk (Nat.le_of_ble_eq_true rfl) (Nat.le_of_ble_eq_true rfl) ⟨Or.inr ⟨rfl, ⟨t, ht, rfl⟩, by omega⟩, rfl⟩
  · -- on
    replace c12 : n = 0 := (z_eq (by omega)).mp c12
    exact xg_throw C hl0 hE xIS (by decide) (text := "the spelled text is empty") (by decide +kernel) rfl (by decide) (by decide) w5 w6 w7 at_xIS (List.forall_mem_cons.mpr ⟨rfl, List.forall_mem_cons.mpr ⟨rfl, gd_xIS⟩⟩) dX4_teach_15 dX4_teach_18 dX4_teach_19 dX4_teach_21 dX4_teach_24 htab (Nat.le_of_ble_eq_true rfl) (Nat.le_of_ble_eq_true rfl) (Nat.le_of_ble_eq_true rfl) (Nat.le_of_ble_eq_true rfl) hlk (Nat.le_of_ble_eq_true rfl) (Nat.le_of_ble_eq_true rfl) ⟨Or.inr ⟨rfl, ⟨t, ht, rfl⟩, by omega⟩, rfl⟩
set_option maxHeartbeats 4000000 in
set_option maxRecDepth 100000 in
theorem c_X4_tongueOf (l : Launch) (hl0 : l.stackTraces = false) (D : va_G) (cy : Nat → ClassId) (ad : Nat → Nat) (hDis : Dis ad) (σ : sS) {x : Int32} : Xi l yX4_tongueOf wsX4_tongueOf 7 112 1 6 D cy ad [.ref (ad 0), .int x] σ (fun r τ => ¬ x < 0 ∧ fsw (σ 17) x 30 0 < 30 ∧ r = σ 18 (fsw (σ 17) x 30 0) ∧ σ = τ) (fun E τ => E = xNS ∧ (x < 0 ∨ fsw (σ 17) x 30 0 = 30) ∧ σ = τ) := by
  have w0 : Cond.fieldLink RX4 30 "Tonguetell" "shelf" "LTonguetell$Shelf;" ∈ wsX4_tongueOf := by decide +kernel
  have w1 : ∀ w ∈ wsX40, w ∈ wsX4_tongueOf := by decide +kernel
  have w2 : Cond.fieldLink RX4 108 "Tonguetell$Shelf" "tongueIn" "[I" ∈ wsX4_tongueOf := by decide +kernel
  have w3 : ∀ w ∈ wsX10, w ∈ wsX4_tongueOf := by decide +kernel
  refine Xi.of (cc := cX4_tongueOf) (nL := 2) (own := RX4) hDis (by decide) rfl [(0, .ref (ad 0)), (1, .int x)] rfl (Nat.le_of_ble_eq_true rfl) rfl ?_
  intro p e s m args below meth c A Qc C hE hlk htab hret
  refine tg_aload_n C dX4_tongueOf_0 1 rfl rfl 0 rfl ?_
  refine tg_get (T := TX4) (N := 8) (Cn := RX4) C 0 (by decide) (e_0 ad cy _) rfl w1 3 (by decide) w0 rfl rfl dX4_tongueOf_1 4 rfl ?_
  refine tg_get (T := TX1) (N := 5) (Cn := RX1) C 16 (by decide) (e_16 ad cy _) rfl w3 1 (by decide) w2 rfl rfl dX4_tongueOf_4 7 rfl ?_
  refine tg_aload_n C dX4_tongueOf_7 8 rfl rfl 0 rfl ?_
  refine tg_iload_n C dX4_tongueOf_8 9 rfl rfl 1 rfl ?_
  refine xg_callVi C hE 0 (by decide) (e_0 ad cy _) rfl (c_X4_slotOfTaught l hl0 D cy ad hDis σ (x := x)) (cwV 1 C.2.2.2.2.1 gX4_tongueOf_X4_slotOfTaught rfl rfl rfl (by decide +kernel) ⟨(Nat.le_of_ble_eq_true rfl), (Nat.le_of_ble_eq_true rfl)⟩) rfl rfl (Nat.le_of_ble_eq_true rfl) ⟨(Nat.le_of_ble_eq_true rfl), (Nat.le_of_ble_eq_true rfl)⟩ dX4_tongueOf_9 12 rfl (fun E τx H locs ls ce q hq hP hS9 hl9 h1 h2 h3 => xg_out C hlk htab (Nat.le_of_ble_eq_true rfl) (Nat.le_of_ble_eq_true rfl) hP hS9 h1 h2 h3 hq) (fun r9 τ9 h9 => ?_)
  obtain ⟨h9r, h0, h30, h9s⟩ := h9
  subst h9s
  subst h9r
  refine tg_iald C 18 (by decide) ((e_18 ad cy) _) (fsw (σ 17) x 30 0) rfl h30 (by decide) dX4_tongueOf_12 13 rfl ?_
  exact hret (Nat.le_of_ble_eq_true rfl) (Nat.le_of_ble_eq_true rfl) dX4_tongueOf_13 ⟨h0, h30, rfl, rfl⟩
set_option maxHeartbeats 4000000 in
set_option maxRecDepth 100000 in
theorem c_X4_withdraw (l : Launch) (hl0 : l.stackTraces = false) (D : va_G) (cy : Nat → ClassId) (ad : Nat → Nat) (hDis : Dis ad) (σ : sS) {ct : Nat → Nat → Nat} {mt : Nat → Nat} (hT : Ta σ ct mt) {x : Int32} {t ln : Nat} {rr : Nat → Nat} (hW : ¬ x < 0 → fsw (σ 17) x 30 0 < 30 → σ 18 (fsw (σ 17) x 30 0) = nI t ∧ t < 5 ∧ σ 19 (fsw (σ 17) x 30 0) = nI ln ∧ ln ≤ 17 ∧ (∀ p, p < ln → σ (21 + fsw (σ 17) x 30 0) p = nI (rr p) ∧ rr p < 36) ∧ (∀ r, cntF rr ln r ≤ ct t r) ∧ ln ≤ mt t) : Xi l yX4_withdraw wsX4_withdraw 7 112 1 6 D cy ad [.ref (ad 0), .int x] σ (fun r τ => ¬ x < 0 ∧ fsw (σ 17) x 30 0 < 30 ∧ r = nI ln ∧ τ 17 = upd (σ 17) (fsw (σ 17) x 30 0) (-1) ∧ Tl τ (6 + t) (11 + t) (fun r => ct t r - cntF rr ln r) (mt t - ln) ∧ ∀ j, j ≠ 17 → j ≠ 6 + t → j ≠ 11 + t → τ j = σ j) (fun E τ => E = xNS ∧ (x < 0 ∨ fsw (σ 17) x 30 0 = 30) ∧ σ = τ) := by
  have w0 : Cond.fieldLink RX4 23 "Tonguetell" "tallies" "[LTonguetell$Tally;" ∈ wsX4_withdraw := by decide +kernel
  have w1 : ∀ w ∈ wsX40, w ∈ wsX4_withdraw := by decide +kernel
  have w2 : Cond.fieldLink RX4 30 "Tonguetell" "shelf" "LTonguetell$Shelf;" ∈ wsX4_withdraw := by decide +kernel
  have w3 : Cond.fieldLink RX4 108 "Tonguetell$Shelf" "tongueIn" "[I" ∈ wsX4_withdraw := by decide +kernel
  have w4 : ∀ w ∈ wsX10, w ∈ wsX4_withdraw := by decide +kernel
  have w5 : Cond.fieldLink RX4 112 "Tonguetell$Shelf" "lengthIn" "[I" ∈ wsX4_withdraw := by decide +kernel
  have w6 : Cond.fieldLink RX4 115 "Tonguetell$Shelf" "runsIn" "[[I" ∈ wsX4_withdraw := by decide +kernel
  refine Xi.of (cc := cX4_withdraw) (nL := 6) (own := RX4) hDis (by decide) rfl [(0, .ref (ad 0)), (1, .int x)] rfl (Nat.le_of_ble_eq_true rfl) rfl ?_
  intro p e s m args below meth c A Qc C hE hlk htab hret
  refine tg_aload_n C dX4_withdraw_0 1 rfl rfl 0 rfl ?_
  refine tg_iload_n C dX4_withdraw_1 2 rfl rfl 1 rfl ?_
  refine xg_callVi C hE 0 (by decide) (e_0 ad cy _) rfl (c_X4_slotOfTaught l hl0 D cy ad hDis σ (x := x)) (cwV 1 C.2.2.2.2.1 gX4_withdraw_X4_slotOfTaught rfl rfl rfl (by decide +kernel) ⟨(Nat.le_of_ble_eq_true rfl), (Nat.le_of_ble_eq_true rfl)⟩) rfl rfl (Nat.le_of_ble_eq_true rfl) ⟨(Nat.le_of_ble_eq_true rfl), (Nat.le_of_ble_eq_true rfl)⟩ dX4_withdraw_2 5 rfl (fun E τx H locs ls ce q hq hP hS9 hl9 h1 h2 h3 => xg_out C hlk htab (Nat.le_of_ble_eq_true rfl) (Nat.le_of_ble_eq_true rfl) hP hS9 h1 h2 h3 hq) (fun r2 τ2 h2 => ?_)
  obtain ⟨h2r, h0, h30, h2s⟩ := h2
  subst h2s
  subst h2r
  obtain ⟨hw1, hw2, hw3, hw4, hw5, hw6, hw7⟩ := hW h0 h30
  refine tg_istore_n C dX4_withdraw_5 6 rfl rfl [(2, .int (nI (fsw (σ 17) x 30 0))), (0, .ref (ad 0)), (1, .int x)] (by decide) rfl ?_
  refine tg_aload_n C dX4_withdraw_6 7 rfl rfl 1 rfl ?_
  refine tg_get (T := TX4) (N := 8) (Cn := RX4) C 0 (by decide) (e_0 ad cy _) rfl w1 2 (by decide) w0 rfl rfl dX4_withdraw_7 10 rfl ?_
  refine tg_aload_n C dX4_withdraw_10 11 rfl rfl 1 rfl ?_
  refine tg_get (T := TX4) (N := 8) (Cn := RX4) C 0 (by decide) (e_0 ad cy _) rfl w1 3 (by decide) w2 rfl rfl dX4_withdraw_11 14 rfl ?_
  refine tg_get (T := TX1) (N := 5) (Cn := RX1) C 16 (by decide) (e_16 ad cy _) rfl w4 1 (by decide) w3 rfl rfl dX4_withdraw_14 17 rfl ?_
  refine tg_iload_n C dX4_withdraw_17 18 rfl rfl 0 rfl ?_
  refine tg_iald C 18 (by decide) ((e_18 ad cy) _) (fsw (σ 17) x 30 0) rfl h30 (by decide) dX4_withdraw_18 19 rfl ?_
  refine tg_top (y := nI t) (hw1) ?_
  refine tg_aald C 5 1 (by decide) (e_5 ad cy _) rfl rfl t rfl (by omega) (by decide) dX4_withdraw_19 20 rfl ?_
  refine tg_astore_n C dX4_withdraw_20 21 rfl rfl [(3, .ref (ad (6 + t))), (2, .int (nI (fsw (σ 17) x 30 0))), (0, .ref (ad 0)), (1, .int x)] (by decide) rfl ?_
  refine tg_aload_n C dX4_withdraw_21 22 rfl rfl 2 rfl ?_
  refine tg_get (T := TX4) (N := 8) (Cn := RX4) C 0 (by decide) (e_0 ad cy _) rfl w1 3 (by decide) w2 rfl rfl dX4_withdraw_22 25 rfl ?_
  refine tg_get (T := TX1) (N := 5) (Cn := RX1) C 16 (by decide) (e_16 ad cy _) rfl w4 2 (by decide) w5 rfl rfl dX4_withdraw_25 28 rfl ?_
  refine tg_iload_n C dX4_withdraw_28 29 rfl rfl 1 rfl ?_
  refine tg_iald C 19 (by decide) ((e_19 ad cy) _) (fsw (σ 17) x 30 0) rfl h30 (by decide) dX4_withdraw_29 30 rfl ?_
  refine tg_top (y := nI ln) (hw3) ?_
  refine tg_istore C dX4_withdraw_30 32 rfl [(4, .int (nI ln)), (3, .ref (ad (6 + t))), (2, .int (nI (fsw (σ 17) x 30 0))), (0, .ref (ad 0)), (1, .int x)] (by decide) rfl ?_
  refine tg_iconst C (nI 0) dX4_withdraw_32 33 rfl (by decide) ?_
  refine tg_istore C dX4_withdraw_33 35 rfl [(5, .int (nI 0)), (4, .int (nI ln)), (3, .ref (ad (6 + t))), (2, .int (nI (fsw (σ 17) x 30 0))), (0, .ref (ad 0)), (1, .int x)] (by decide) rfl ?_
  have L35 : ∀ (n35 : Nat) (i : Nat) (σ1 : sS), (i ≤ ln ∧ Tl σ1 (6 + t) (11 + t) (fun r => ct t r - cntF rr i r) (mt t - i) ∧ ∀ j, j ≠ 6 + t → j ≠ 11 + t → σ1 j = σ j) → ln - i < n35 → TT p l e (Rx 7 112 1 6) s m args below meth c D cy ad A 6 1 6 (vx_MQ below Qc (Xq D cy ad (fun E τ => E = xNS ∧ (x < 0 ∨ fsw (σ 17) x 30 0 = 30) ∧ σ = τ) A) args s 1 6 A) σ1 35 [(0, .ref (ad 0)), (1, .int x), (2, .int (nI (fsw (σ 17) x 30 0))), (3, .ref (ad (6 + t))), (4, .int (nI ln)), (5, .int (nI i))] [] := by
    intro n35
    induction n35 with
    | zero => intro i σ1 _ hn35; exact absurd hn35 (Nat.not_lt_zero _)
    | succ n35 ih35 =>
      intro i σ1 ⟨hi, hL, hf⟩ hn35
      refine tg_iload C dX4_withdraw_35 37 rfl 5 rfl ?_
      refine tg_iload C dX4_withdraw_37 39 rfl 4 rfl ?_
      refine tg_icmp_ge C 64 dX4_withdraw_39 (by decide) 42 rfl (fun c39 => ?_) (fun c39 => ?_)
      · -- to 64
        replace c39 : ln ≤ i := (nI_leI (by omega) (by omega)).mp c39
        refine tg_aload_n C dX4_withdraw_64 65 rfl rfl 0 rfl ?_
        refine tg_get (T := TX4) (N := 8) (Cn := RX4) C 0 (by decide) (e_0 ad cy _) rfl w1 3 (by decide) w2 rfl rfl dX4_withdraw_65 68 rfl ?_
        refine tg_iload_n C dX4_withdraw_68 69 rfl rfl 2 rfl ?_
        refine tg_callVv C 16 (by decide) (e_16 ad cy _) rfl (c_X1_free l D cy ad hDis σ1 (s9 := fsw (σ 17) x 30 0) h30) (cwV 1 C.2.2.2.2.1 gX4_withdraw_X1_free rfl rfl rfl (by decide +kernel) ⟨Nat.le_of_ble_eq_true rfl, Nat.le_of_ble_eq_true rfl⟩) rfl rfl (Nat.le_of_ble_eq_true rfl) ⟨Nat.le_of_ble_eq_true rfl, Nat.le_of_ble_eq_true rfl⟩ dX4_withdraw_69 72 rfl (fun τ69 h69 => ?_)
        refine tg_iload C dX4_withdraw_72 74 rfl 4 rfl ?_
        exact hret (Nat.le_of_ble_eq_true rfl) (Nat.le_of_ble_eq_true rfl) dX4_withdraw_74 ⟨h0, h30, rfl, by rw [h69]; show va_up _ _ _ _ = _; rw [va_up_self, hf 17 (by omega) (by omega)], by
            have hil : i = ln := by omega
            subst hil
            exact hL.fr (by rw [h69, su_ni _ _ _ (by omega)]) (by rw [h69, su_ni _ _ _ (by omega)]), fun j h1 h2 h3 => by rw [h69, su_ni _ _ _ h1]; exact hf j h2 h3⟩
      · -- on
        replace c39 : ¬ ln ≤ i := fun q => c39 ((nI_leI (by omega) (by omega)).mpr q)
        refine tg_aload_n C dX4_withdraw_42 43 rfl rfl 3 rfl ?_
        refine tg_aload_n C dX4_withdraw_43 44 rfl rfl 0 rfl ?_
        refine tg_get (T := TX4) (N := 8) (Cn := RX4) C 0 (by decide) (e_0 ad cy _) rfl w1 3 (by decide) w2 rfl rfl dX4_withdraw_44 47 rfl ?_
        refine tg_get (T := TX1) (N := 5) (Cn := RX1) C 16 (by decide) (e_16 ad cy _) rfl w4 3 (by decide) w6 rfl rfl dX4_withdraw_47 50 rfl ?_
        refine tg_iload_n C dX4_withdraw_50 51 rfl rfl 2 rfl ?_
        refine tg_aald C 20 2 (by decide) ((e_20 ad cy) _) rfl rfl (fsw (σ 17) x 30 0) rfl h30 (by decide) dX4_withdraw_51 52 rfl ?_
        refine tg_iload C dX4_withdraw_52 54 rfl 5 rfl ?_
        refine tg_iald C (21 + (fsw (σ 17) x 30 0)) (by omega) ((e_rowR ad cy (show fsw (σ 17) x 30 0 < 30 by omega)) _) i rfl (by omega) (by decide) dX4_withdraw_54 55 rfl ?_
        refine tg_top (y := nI (rr i)) ((congrFun (hf _ (by omega) (by omega)) i).trans (hw5 i (by omega)).1) ?_
        have hrm : 0 < (fun r => ct t r - cntF rr i r) (rr i) := by
          have h1 := cntF_mono rr (rr i) (show i + 1 ≤ ln by omega)
          rw [cntF_step, if_pos rfl] at h1
          have h2 := hw6 (rr i)
          show 0 < ct t (rr i) - cntF rr i (rr i)
          omega
        refine tg_callVv C (6 + t) (isTy.at (show t < 5 by omega)).lt ((isTy.at (show t < 5 by omega)).e ad cy _) rfl (c_X3_remove l D cy ad hDis σ1 (isTy.at hw2) hL (r9 := rr i) (hw5 i (by omega)).2 hrm (by omega)) (cwV 1 C.2.2.2.2.1 gX4_withdraw_X3_remove rfl rfl rfl (by decide +kernel) ⟨Nat.le_of_ble_eq_true rfl, Nat.le_of_ble_eq_true rfl⟩) rfl rfl (Nat.le_of_ble_eq_true rfl) ⟨Nat.le_of_ble_eq_true rfl, Nat.le_of_ble_eq_true rfl⟩ dX4_withdraw_55 58 rfl (fun τ55 h55 => ?_)
        refine tg_iinc C (nI (i + 1)) dX4_withdraw_58 61 rfl 5 rfl (nI_add i 1) [(5, .int (nI (i + 1))), (0, .ref (ad 0)), (1, .int x), (2, .int (nI (fsw (σ 17) x 30 0))), (3, .ref (ad (6 + t))), (4, .int (nI ln))] (by decide) rfl ?_
        refine tg_goto C 35 dX4_withdraw_61 (by decide) ?_
        refine tg_sub [1, 2, 3, 4, 5, 0] rfl ?_
        subst h55
        have hm9 := (hT t hw2).2.1
        refine ih35 (i + 1) _ ⟨by omega, ⟨by rw [su_eq, show mt t - i - 1 = mt t - (i + 1) by omega], by omega, fun r hr => ⟨?_, Nat.le_trans (Nat.sub_le _ _) ((hT t hw2).2.2 r hr).2⟩⟩, fun j h1 h2 => by rw [su_ni _ _ _ h1, su_ni _ _ _ h2]; exact hf j h1 h2⟩ (by omega)
        show _ = nI (ct t r - cntF rr (i + 1) r)
        rw [su_ni _ _ _ (by omega), su_ap, cntF_step]
        split
        · rename_i hh
          rw [if_pos hh.2.symm, hh.2, show ct t (rr i) - (cntF rr i (rr i) + 1) = ct t (rr i) - cntF rr i (rr i) - 1 by omega]
        · rename_i hh
          rw [if_neg (fun q => hh ⟨rfl, q.symm⟩)]
          exact (hL.2.2 r hr).1
  refine tg_sub [4, 5, 3, 2, 1, 0] rfl ?_
  have hT9 := hT t hw2
  exact L35 _ 0 σ ⟨by omega, ⟨hT9.1, hT9.2.1, fun r hr => ⟨(hT9.2.2 r hr).1, (hT9.2.2 r hr).2⟩⟩, fun j _ _ => rfl⟩ (Nat.lt_succ_self _)
