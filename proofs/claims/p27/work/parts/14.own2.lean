/-! ===== the class: teaching, costs for the cut ===== -/
/-! ===== teaching ===== -/
/-- how often run r is among the first i runs from place f on -/
def ownF (n : Nat) (w : Nat → Nat) (f i r : Nat) : Nat := sm (fun k => if rn n w (f + k) = r then 1 else 0) i
theorem ownF_le (n : Nat) (w : Nat → Nat) (f i r : Nat) : ownF n w f i r ≤ i := by
  have := sm_le (f := fun k => if rn n w (f + k) = r then 1 else 0) (B := 1) i (fun k _ => by split <;> omega)
  unfold ownF
  omega
/-- what a taught text changes: slot s, number nx, tongue t, ln runs from place f on -/
def Kept (σ τ : sS) (s nx t ln f n : Nat) (w : Nat → Nat) (c : Nat → Nat) (m : Nat) : Prop :=
  τ 17 = upd (σ 17) s (nI nx) ∧ τ 18 = upd (σ 18) s (nI t) ∧ τ 19 = upd (σ 19) s (nI ln) ∧ τ 16 4 = nI (nx + 1) ∧ (∀ p, p < ln → τ (21 + s) p = nI (rn n w (f + p))) ∧ Tl τ (6 + t) (11 + t) (fun r => c r + ownF n w f ln r) (m + ln) ∧
  ∀ j, j ≠ 16 → j ≠ 17 → j ≠ 18 → j ≠ 19 → j ≠ 21 + s → j ≠ 6 + t → j ≠ 11 + t → τ j = σ j
/-- the costs of the text's runs, as the cutter gets them -/
def kst (n : Nat) (w : Nat → Nat) (c : Nat → Nat → Nat) (m : Nat → Nat) (p t : Nat) : Nat := costN (c t (rn n w p)) (m t)
set_option maxHeartbeats 4000000 in
set_option maxRecDepth 100000 in
theorem c_X4_teachRuns (l : Launch) (D : va_G) (cy : Nat → ClassId) (ad : Nat → Nat) (hDis : Dis ad) (σ : sS) {n : Nat} {w : Nat → Nat} (hS : Sp σ n w) {ct : Nat → Nat → Nat} {mt : Nat → Nat} (hT : Ta σ ct mt) {t f9 ln s9 nx : Nat} (ht : t < 5) (hfl : f9 + ln ≤ rc n) (hs : fsw (σ 17) (-1) 30 0 = s9) (hs9 : s9 < 30) (h4 : σ 16 4 = nI nx) (hnx : nx ≤ 10000) (hmt : mt t ≤ 510) (hct : ∀ r, ct t r ≤ 510) : Mi l yX4_teachRuns wsX4_teachRuns 2 45 D cy ad [.ref (ad 0), .int (nI t), .int (nI f9), .int (nI ln)] σ (fun r τ => r = nI nx ∧ Kept σ τ s9 nx t ln f9 n w (ct t) (mt t)) := by
  have w0 : Cond.fieldLink RX4 30 "Tonguetell" "shelf" "LTonguetell$Shelf;" ∈ wsX4_teachRuns := by decide +kernel
  have w1 : ∀ w ∈ wsX40, w ∈ wsX4_teachRuns := by decide +kernel
  have w2 : Cond.fieldLink RX4 211 "Tonguetell$Shelf" "numberIn" "[I" ∈ wsX4_teachRuns := by decide +kernel
  have w3 : ∀ w ∈ wsX10, w ∈ wsX4_teachRuns := by decide +kernel
  have w4 : Cond.fieldLink RX4 10 "Tonguetell" "spelled" "LTonguetell$Spelling;" ∈ wsX4_teachRuns := by decide +kernel
  have w5 : Cond.fieldLink RX4 115 "Tonguetell$Shelf" "runsIn" "[[I" ∈ wsX4_teachRuns := by decide +kernel
  have w6 : Cond.fieldLink RX4 23 "Tonguetell" "tallies" "[LTonguetell$Tally;" ∈ wsX4_teachRuns := by decide +kernel
  have hn16 := hS.2.1
  have hrc := rc_le hn16
  have hrn := rn_lt (fun k h => (hS.2.2 k h).2)
  refine Mi.of (cc := cX4_teachRuns) (nL := 7) (own := RX4) hDis (by decide) rfl [(0, .ref (ad 0)), (1, .int (nI t)), (2, .int (nI f9)), (3, .int (nI ln))] rfl (Nat.le_of_ble_eq_true rfl) rfl ?_
  intro p e s m args below meth c A Q C hret
  refine tg_aload_n C dX4_teachRuns_0 1 rfl rfl 0 rfl ?_
  refine tg_get (T := TX4) (N := 8) (Cn := RX4) C 0 (by decide) (e_0 ad cy _) rfl w1 3 (by decide) w0 rfl rfl dX4_teachRuns_1 4 rfl ?_
  refine tg_iload_n C dX4_teachRuns_4 5 rfl rfl 1 rfl ?_
  refine tg_iload_n C dX4_teachRuns_5 6 rfl rfl 3 rfl ?_
  refine tg_callVi C 16 (by decide) (e_16 ad cy _) rfl (c_X1_take l D cy ad hDis σ (s9 := s9) (nx := nx) (t := t) (ln := ln) hs hs9 h4 hnx) (cwV 2 C.2.2.2.2.1 gX4_teachRuns_X1_take rfl rfl rfl (by decide +kernel) ⟨Nat.le_of_ble_eq_true rfl, Nat.le_of_ble_eq_true rfl⟩) rfl rfl (Nat.le_of_ble_eq_true rfl) ⟨Nat.le_of_ble_eq_true rfl, Nat.le_of_ble_eq_true rfl⟩ dX4_teachRuns_6 9 rfl (fun r6 τ6 h6 => ?_)
  obtain ⟨h6a, h6b⟩ := h6
  subst h6a
  have hτ : ∀ j, j ≠ 16 → j ≠ 17 → j ≠ 18 → j ≠ 19 → τ6 j = σ j := fun j h1 h2 h3 h5 => by rw [h6b, su_ni _ _ _ h1, su_ni _ _ _ h5, su_ni _ _ _ h3, su_ni _ _ _ h2]
  refine tg_istore C dX4_teachRuns_9 11 rfl [(4, .int (nI s9)), (0, .ref (ad 0)), (1, .int (nI t)), (2, .int (nI f9)), (3, .int (nI ln))] (by decide) rfl ?_
  refine tg_iconst C (nI 0) dX4_teachRuns_11 12 rfl (by decide) ?_
  refine tg_istore C dX4_teachRuns_12 14 rfl [(5, .int (nI 0)), (4, .int (nI s9)), (0, .ref (ad 0)), (1, .int (nI t)), (2, .int (nI f9)), (3, .int (nI ln))] (by decide) rfl ?_
  have L14 : ∀ (n14 : Nat) (i : Nat) (σ1 : sS), (i ≤ ln ∧ (∀ j, j ≠ 21 + s9 → j ≠ 6 + t → j ≠ 11 + t → σ1 j = τ6 j) ∧ (∀ p, p < i → σ1 (21 + s9) p = nI (rn n w (f9 + p))) ∧ Tl σ1 (6 + t) (11 + t) (fun r => ct t r + ownF n w f9 i r) (mt t + i)) → ln - i < n14 → TT p l e (Rm 2 45) s m args below meth c D cy ad A 7 0 0 Q σ1 14 [(0, .ref (ad 0)), (1, .int (nI t)), (2, .int (nI f9)), (3, .int (nI ln)), (4, .int (nI s9)), (5, .int (nI i))] [] := by
    intro n14
    induction n14 with
    | zero => intro i σ1 _ hn14; exact absurd hn14 (Nat.not_lt_zero _)
    | succ n14 ih14 =>
      intro i σ1 ⟨hi, hf, hr, hL⟩ hn14
      have hS1 : Sp σ1 n w := hS.fr ((hf 1 (by omega) (by omega) (by omega)).trans (hτ 1 (by decide) (by decide) (by decide) (by decide))) ((hf 2 (by omega) (by omega) (by omega)).trans (hτ 2 (by decide) (by decide) (by decide) (by decide)))
      have h17 : σ1 17 s9 = nI nx := by rw [hf 17 (by omega) (by omega) (by omega), h6b, su_ni _ _ _ (by decide), su_ni _ _ _ (by decide), su_ni _ _ _ (by decide), su_eq]
      refine tg_iload C dX4_teachRuns_14 16 rfl 5 rfl ?_
      refine tg_iload_n C dX4_teachRuns_16 17 rfl rfl 3 rfl ?_
      refine tg_icmp_ge C 65 dX4_teachRuns_17 (by decide) 20 rfl (fun c17 => ?_) (fun c17 => ?_)
      · -- to 65
        replace c17 : ln ≤ i := (nI_leI (by omega) (by omega)).mp c17
        refine tg_aload_n C dX4_teachRuns_65 66 rfl rfl 0 rfl ?_
        refine tg_get (T := TX4) (N := 8) (Cn := RX4) C 0 (by decide) (e_0 ad cy _) rfl w1 3 (by decide) w0 rfl rfl dX4_teachRuns_66 69 rfl ?_
        refine tg_get (T := TX1) (N := 5) (Cn := RX1) C 16 (by decide) (e_16 ad cy _) rfl w3 0 (by decide) w2 rfl rfl dX4_teachRuns_69 72 rfl ?_
        refine tg_iload C dX4_teachRuns_72 74 rfl 4 rfl ?_
        refine tg_iald C 17 (by decide) ((e_17 ad cy) _) s9 rfl (by omega) (by decide) dX4_teachRuns_74 75 rfl ?_
        refine tg_top (y := nI nx) (h17) ?_
        exact hret dX4_teachRuns_75 ⟨rfl, by
            have hil : i = ln := by omega
            subst hil
            refine ⟨?_, ?_, ?_, ?_, hr, hL, fun j h1 h2 h3 h5 h7 h8 h9 => (hf j h7 h8 h9).trans (hτ j h1 h2 h3 h5)⟩
            · rw [hf 17 (by omega) (by omega) (by omega), h6b, su_ni _ _ _ (by decide), su_ni _ _ _ (by decide), su_ni _ _ _ (by decide)]; exact va_up_self _ _ _
            · rw [hf 18 (by omega) (by omega) (by omega), h6b, su_ni _ _ _ (by decide), su_ni _ _ _ (by decide)]; exact va_up_self _ _ _
            · rw [hf 19 (by omega) (by omega) (by omega), h6b, su_ni _ _ _ (by decide)]; exact va_up_self _ _ _
            · rw [hf 16 (by omega) (by omega) (by omega), h6b, su_eq]⟩
      · -- on
        replace c17 : ¬ ln ≤ i := fun q => c17 ((nI_leI (by omega) (by omega)).mpr q)
        refine tg_aload_n C dX4_teachRuns_20 21 rfl rfl 0 rfl ?_
        refine tg_get (T := TX4) (N := 8) (Cn := RX4) C 0 (by decide) (e_0 ad cy _) rfl w1 0 (by decide) w4 rfl rfl dX4_teachRuns_21 24 rfl ?_
        refine tg_iload_n C dX4_teachRuns_24 25 rfl rfl 2 rfl ?_
        refine tg_iload C dX4_teachRuns_25 27 rfl 5 rfl ?_
        refine tg_iadd C (nI (f9 + i)) dX4_teachRuns_27 28 rfl (nI_add f9 i) ?_
        refine tg_callVi C 1 (by decide) (e_1 ad cy _) rfl (c_X2_runNumber l D cy ad hDis σ1 hS1 (k := f9 + i) (by omega)) (cwV 1 C.2.2.2.2.1 gX4_teachRuns_X2_runNumber rfl rfl rfl (by decide +kernel) ⟨Nat.le_of_ble_eq_true rfl, Nat.le_of_ble_eq_true rfl⟩) rfl rfl (Nat.le_of_ble_eq_true rfl) ⟨Nat.le_of_ble_eq_true rfl, Nat.le_of_ble_eq_true rfl⟩ dX4_teachRuns_28 31 rfl (fun r28 τ28 h28 => ?_)
        obtain ⟨h28, h28s⟩ := h28
        subst h28s
        subst h28
        refine tg_istore C dX4_teachRuns_31 33 rfl [(6, .int (nI (rn n w (f9 + i)))), (0, .ref (ad 0)), (1, .int (nI t)), (2, .int (nI f9)), (3, .int (nI ln)), (4, .int (nI s9)), (5, .int (nI i))] (by decide) rfl ?_
        refine tg_aload_n C dX4_teachRuns_33 34 rfl rfl 1 rfl ?_
        refine tg_get (T := TX4) (N := 8) (Cn := RX4) C 0 (by decide) (e_0 ad cy _) rfl w1 3 (by decide) w0 rfl rfl dX4_teachRuns_34 37 rfl ?_
        refine tg_get (T := TX1) (N := 5) (Cn := RX1) C 16 (by decide) (e_16 ad cy _) rfl w3 3 (by decide) w5 rfl rfl dX4_teachRuns_37 40 rfl ?_
        refine tg_iload C dX4_teachRuns_40 42 rfl 5 rfl ?_
        refine tg_aald C 20 2 (by decide) ((e_20 ad cy) _) rfl rfl s9 rfl (by omega) (by decide) dX4_teachRuns_42 43 rfl ?_
        refine tg_iload C dX4_teachRuns_43 45 rfl 6 rfl ?_
        refine tg_iload C dX4_teachRuns_45 47 rfl 0 rfl ?_
        refine tg_iast C (21 + s9) (by omega) (e_rowR ad cy (show s9 < 30 by omega)) i rfl (by omega) (by decide) dX4_teachRuns_47 48 rfl ?_
        obtain ⟨σ2, hσ2⟩ : ∃ z : sS, z = su σ1 (21 + s9) i (nI (rn n w (f9 + i))) := ⟨_, rfl⟩
        rw [← hσ2]
        have hL2 : Tl σ2 (6 + t) (11 + t) (fun r => ct t r + ownF n w f9 i r) (mt t + i) := hL.fr (by rw [hσ2, su_ni _ _ _ (by omega)]) (by rw [hσ2, su_ni _ _ _ (by omega)])
        refine tg_aload_n C dX4_teachRuns_48 49 rfl rfl 1 rfl ?_
        refine tg_get (T := TX4) (N := 8) (Cn := RX4) C 0 (by decide) (e_0 ad cy _) rfl w1 2 (by decide) w6 rfl rfl dX4_teachRuns_49 52 rfl ?_
        refine tg_iload_n C dX4_teachRuns_52 53 rfl rfl 2 rfl ?_
        refine tg_aald C 5 1 (by decide) (e_5 ad cy _) rfl rfl t rfl (by omega) (by decide) dX4_teachRuns_53 54 rfl ?_
        refine tg_iload C dX4_teachRuns_54 56 rfl 0 rfl ?_
        refine tg_callVv C (6 + t) (isTy.at (show t < 5 by omega)).lt ((isTy.at (show t < 5 by omega)).e ad cy _) rfl (c_X3_add l D cy ad hDis σ2 (isTy.at ht) hL2 (r9 := rn n w (f9 + i)) (hrn _)) (cwV 1 C.2.2.2.2.1 gX4_teachRuns_X3_add rfl rfl rfl (by decide +kernel) ⟨Nat.le_of_ble_eq_true rfl, Nat.le_of_ble_eq_true rfl⟩) rfl rfl (Nat.le_of_ble_eq_true rfl) ⟨Nat.le_of_ble_eq_true rfl, Nat.le_of_ble_eq_true rfl⟩ dX4_teachRuns_56 59 rfl (fun τ56 h56 => ?_)
        refine tg_iinc C (nI (i + 1)) dX4_teachRuns_59 62 rfl 6 rfl (nI_add i 1) [(5, .int (nI (i + 1))), (6, .int (nI (rn n w (f9 + i)))), (0, .ref (ad 0)), (1, .int (nI t)), (2, .int (nI f9)), (3, .int (nI ln)), (4, .int (nI s9))] (by decide) rfl ?_
        refine tg_goto C 14 dX4_teachRuns_62 (by decide) ?_
        refine tg_sub [2, 3, 4, 5, 6, 0] rfl ?_
        subst h56
        refine ih14 (i + 1) _ ⟨by omega, fun j h1 h2 h3 => by rw [su_ni _ _ _ h2, su_ni _ _ _ h3, hσ2, su_ni _ _ _ h1]; exact hf j h1 h2 h3, fun p hp => ?_, ⟨by rw [su_eq]; rfl, by omega, fun r hr9 => ⟨?_, ?_⟩⟩⟩ (by omega)
        · rw [su_ni _ _ _ (by omega), su_ni _ _ _ (by omega), hσ2, su_ap]
          split
          · rename_i hh; rw [hh.2]
          · exact hr p (by omega)
        · rw [su_ni _ _ _ (by omega), su_ap]
          show _ = nI (ct t r + (ownF n w f9 i r + (if rn n w (f9 + i) = r then 1 else 0)))
          split
          · rename_i hh
            rw [if_pos hh.2.symm, hh.2]
            rfl
          · rename_i hh
            rw [if_neg (fun q => hh ⟨rfl, q.symm⟩), (hL2.2.2 r hr9).1]
            rfl
        · have := hct r
          have := ownF_le n w f9 (i + 1) r
          show ct t r + ownF n w f9 (i + 1) r ≤ 600
          omega
  refine tg_sub [2, 3, 4, 5, 1, 0] rfl ?_
  refine L14 _ 0 τ6 ⟨by omega, fun j _ _ _ => rfl, fun p h => by omega, ?_⟩ (Nat.lt_succ_self _)
  have h0 := (hT t ht).fr (hτ (6 + t) (by omega) (by omega) (by omega) (by omega)) (hτ (11 + t) (by omega) (by omega) (by omega) (by omega))
  exact ⟨h0.1, by omega, fun r hr => ⟨by rw [(h0.2.2 r hr).1]; simp [ownF, sm], by have := hct r; simp [ownF, sm]; omega⟩⟩
set_option maxHeartbeats 4000000 in
set_option maxRecDepth 100000 in
theorem c_X4_layCostsForCut (l : Launch) (D : va_G) (cy : Nat → ClassId) (ad : Nat → Nat) (hDis : Dis ad) (σ : sS) {tc mg pr : Nat} (hX : Xs σ tc mg pr) {n : Nat} {w : Nat → Nat} (hS : Sp σ n w) {ct : Nat → Nat → Nat} {mt : Nat → Nat} (hT : Ta σ ct mt) (htc : 0 < tc) : Mv l yX4_layCostsForCut wsX4_layCostsForCut 2 42 D cy ad [.ref (ad 0)] σ (fun τ => Ct τ (rc n) tc pr ∧ Cs τ (rc n) tc (kst n w ct mt) ∧ ∀ j, j ≠ 51 → (j < 53 ∨ 70 ≤ j) → τ j = σ j) := by
  have w0 : Cond.fieldLink RX4 37 "Tonguetell" "cutter" "LTonguetell$Cutter;" ∈ wsX4_layCostsForCut := by decide +kernel
  have w1 : ∀ w ∈ wsX40, w ∈ wsX4_layCostsForCut := by decide +kernel
  have w2 : Cond.fieldLink RX4 10 "Tonguetell" "spelled" "LTonguetell$Spelling;" ∈ wsX4_layCostsForCut := by decide +kernel
  have w3 : Cond.fieldLink RX4 41 "Tonguetell" "tongueCount" "I" ∈ wsX4_layCostsForCut := by decide +kernel
  have w4 : Cond.fieldLink RX4 48 "Tonguetell" "price" "I" ∈ wsX4_layCostsForCut := by decide +kernel
  have w5 : Cond.fieldLink RX4 226 "Tonguetell$Cutter" "costs" "[[I" ∈ wsX4_layCostsForCut := by decide +kernel
  have w6 : ∀ w ∈ wsX00, w ∈ wsX4_layCostsForCut := by decide +kernel
  have w7 : Cond.fieldLink RX4 23 "Tonguetell" "tallies" "[LTonguetell$Tally;" ∈ wsX4_layCostsForCut := by decide +kernel
  obtain ⟨hx1, hx2, hx3, hx4, hx5, hx6⟩ := id hX
  have hn16 := hS.2.1
  have hrc := rc_le hn16
  have hrn := rn_lt (fun k h => (hS.2.2 k h).2)
  refine Mv.of (cc := cX4_layCostsForCut) (nL := 4) (own := RX4) hDis (by decide) rfl [(0, .ref (ad 0))] rfl (Nat.le_of_ble_eq_true rfl) rfl ?_
  intro p e s m args below meth c A Q C hret
  refine tg_aload_n C dX4_layCostsForCut_0 1 rfl rfl 0 rfl ?_
  refine tg_get (T := TX4) (N := 8) (Cn := RX4) C 0 (by decide) (e_0 ad cy _) rfl w1 4 (by decide) w0 rfl rfl dX4_layCostsForCut_1 4 rfl ?_
  refine tg_aload_n C dX4_layCostsForCut_4 5 rfl rfl 0 rfl ?_
  refine tg_get (T := TX4) (N := 8) (Cn := RX4) C 0 (by decide) (e_0 ad cy _) rfl w1 0 (by decide) w2 rfl rfl dX4_layCostsForCut_5 8 rfl ?_
  refine tg_callVi C 1 (by decide) (e_1 ad cy _) rfl (c_X2_runCount l D cy ad hDis σ hS) (cwV 0 C.2.2.2.2.1 gX4_layCostsForCut_X2_runCount rfl rfl rfl (by decide +kernel) ⟨Nat.le_of_ble_eq_true rfl, Nat.le_of_ble_eq_true rfl⟩) rfl rfl (Nat.le_of_ble_eq_true rfl) ⟨Nat.le_of_ble_eq_true rfl, Nat.le_of_ble_eq_true rfl⟩ dX4_layCostsForCut_8 11 rfl (fun r8 τ8 h8 => ?_)
  obtain ⟨h8, h8s⟩ := h8
  subst h8s
  subst h8
  refine tg_aload_n C dX4_layCostsForCut_11 12 rfl rfl 0 rfl ?_
  refine tg_get (T := TX4) (N := 8) (Cn := RX4) C 0 (by decide) (e_0 ad cy _) rfl w1 5 (by decide) w3 rfl rfl dX4_layCostsForCut_12 15 rfl ?_
  refine tg_top (y := nI tc) (hX.1) ?_
  refine tg_aload_n C dX4_layCostsForCut_15 16 rfl rfl 0 rfl ?_
  refine tg_get (T := TX4) (N := 8) (Cn := RX4) C 0 (by decide) (e_0 ad cy _) rfl w1 7 (by decide) w4 rfl rfl dX4_layCostsForCut_16 19 rfl ?_
  refine tg_top (y := nI pr) (hX.2.2.1) ?_
  refine tg_callVv C 51 (by decide) (e_51 ad cy _) rfl (c_X0_begin l D cy ad hDis σ (x := nI (rc n)) (y := nI tc) (z := nI pr)) (cwV 3 C.2.2.2.2.1 gX4_layCostsForCut_X0_begin rfl rfl rfl (by decide +kernel) ⟨Nat.le_of_ble_eq_true rfl, Nat.le_of_ble_eq_true rfl⟩) rfl rfl (Nat.le_of_ble_eq_true rfl) ⟨Nat.le_of_ble_eq_true rfl, Nat.le_of_ble_eq_true rfl⟩ dX4_layCostsForCut_19 22 rfl (fun τ19 h19 => ?_)
  have hτ : ∀ j, j ≠ 51 → τ19 j = σ j := fun j h1 => by rw [h19, su_ni _ _ _ h1, su_ni _ _ _ h1, su_ni _ _ _ h1]
  refine tg_iconst C (nI 0) dX4_layCostsForCut_22 23 rfl (by decide) ?_
  refine tg_istore_n C dX4_layCostsForCut_23 24 rfl rfl [(1, .int (nI 0)), (0, .ref (ad 0))] (by decide) rfl ?_
  have L24 : ∀ (n24 : Nat) (p9 : Nat) (σ1 : sS), (p9 ≤ rc n ∧ (∀ q t, q < p9 → t < tc → σ1 (53 + q) t = nI (kst n w ct mt q t)) ∧ ∀ j, (j < 53 ∨ 70 ≤ j) → σ1 j = τ19 j) → rc n - p9 < n24 → TT p l e (Rm 2 42) s m args below meth c D cy ad A 4 0 0 Q σ1 24 [(0, .ref (ad 0)), (1, .int (nI p9))] [] := by
    intro n24
    induction n24 with
    | zero => intro p9 σ1 _ hn24; exact absurd hn24 (Nat.not_lt_zero _)
    | succ n24 ih24 =>
      intro p9 σ1 ⟨hp, hr, hf⟩ hn24
      have hX1 : Xs σ1 tc mg pr := hX.fr ((hf 0 (by decide)).trans (hτ 0 (by decide)))
      have hS1 : Sp σ1 n w := hS.fr ((hf 1 (by decide)).trans (hτ 1 (by decide))) ((hf 2 (by decide)).trans (hτ 2 (by decide)))
      refine tg_iload_n C dX4_layCostsForCut_24 25 rfl rfl 1 rfl ?_
      refine tg_aload_n C dX4_layCostsForCut_25 26 rfl rfl 0 rfl ?_
      refine tg_get (T := TX4) (N := 8) (Cn := RX4) C 0 (by decide) (e_0 ad cy _) rfl w1 0 (by decide) w2 rfl rfl dX4_layCostsForCut_26 29 rfl ?_
      refine tg_callVi C 1 (by decide) (e_1 ad cy _) rfl (c_X2_runCount l D cy ad hDis σ1 hS1) (cwV 0 C.2.2.2.2.1 gX4_layCostsForCut_X2_runCount rfl rfl rfl (by decide +kernel) ⟨Nat.le_of_ble_eq_true rfl, Nat.le_of_ble_eq_true rfl⟩) rfl rfl (Nat.le_of_ble_eq_true rfl) ⟨Nat.le_of_ble_eq_true rfl, Nat.le_of_ble_eq_true rfl⟩ dX4_layCostsForCut_29 32 rfl (fun r29 τ29 h29 => ?_)
      obtain ⟨h29, h29s⟩ := h29
      subst h29s
      subst h29
      refine tg_icmp_ge C 87 dX4_layCostsForCut_32 (by decide) 35 rfl (fun c32 => ?_) (fun c32 => ?_)
      · -- to 87
        replace c32 : (rc n) ≤ p9 := (nI_leI (by omega) (by omega)).mp c32
        exact hret dX4_layCostsForCut_87 ⟨⟨by rw [hf 51 (by decide), h19, su_nk _ _ _ (by decide), su_nk _ _ _ (by decide), su_eq], by rw [hf 51 (by decide), h19, su_nk _ _ _ (by decide), su_eq], by rw [hf 51 (by decide), h19, su_eq], hrc, hx4, hx6, htc⟩, fun q t hq ht9 => ⟨hr q t (by omega) ht9, costN_le _ _⟩, fun j h1 h2 => (hf j h2).trans (hτ j h1)⟩
      · -- on
        replace c32 : ¬ (rc n) ≤ p9 := fun q => c32 ((nI_leI (by omega) (by omega)).mpr q)
        refine tg_aload_n C dX4_layCostsForCut_35 36 rfl rfl 0 rfl ?_
        refine tg_get (T := TX4) (N := 8) (Cn := RX4) C 0 (by decide) (e_0 ad cy _) rfl w1 0 (by decide) w2 rfl rfl dX4_layCostsForCut_36 39 rfl ?_
        refine tg_iload_n C dX4_layCostsForCut_39 40 rfl rfl 1 rfl ?_
        refine tg_callVi C 1 (by decide) (e_1 ad cy _) rfl (c_X2_runNumber l D cy ad hDis σ1 hS1 (k := p9) (by omega)) (cwV 1 C.2.2.2.2.1 gX4_layCostsForCut_X2_runNumber rfl rfl rfl (by decide +kernel) ⟨Nat.le_of_ble_eq_true rfl, Nat.le_of_ble_eq_true rfl⟩) rfl rfl (Nat.le_of_ble_eq_true rfl) ⟨Nat.le_of_ble_eq_true rfl, Nat.le_of_ble_eq_true rfl⟩ dX4_layCostsForCut_40 43 rfl (fun r40 τ40 h40 => ?_)
        obtain ⟨h40, h40s⟩ := h40
        subst h40s
        subst h40
        refine tg_istore_n C dX4_layCostsForCut_43 44 rfl rfl [(2, .int (nI (rn n w p9))), (0, .ref (ad 0)), (1, .int (nI p9))] (by decide) rfl ?_
        refine tg_iconst C (nI 0) dX4_layCostsForCut_44 45 rfl (by decide) ?_
        refine tg_istore_n C dX4_layCostsForCut_45 46 rfl rfl [(3, .int (nI 0)), (2, .int (nI (rn n w p9))), (0, .ref (ad 0)), (1, .int (nI p9))] (by decide) rfl ?_
        have L46 : ∀ (n46 : Nat) (t : Nat) (σ2 : sS), (t ≤ tc ∧ (∀ u, u < t → σ2 (53 + p9) u = nI (kst n w ct mt p9 u)) ∧ ∀ j, j ≠ 53 + p9 → σ2 j = σ1 j) → tc - t < n46 → TT p l e (Rm 2 42) s m args below meth c D cy ad A 4 0 0 Q σ2 46 [(0, .ref (ad 0)), (1, .int (nI p9)), (2, .int (nI (rn n w p9))), (3, .int (nI t))] [] := by
          intro n46
          induction n46 with
          | zero => intro t σ2 _ hn46; exact absurd hn46 (Nat.not_lt_zero _)
          | succ n46 ih46 =>
            intro t σ2 ⟨ht, hr2, hf2⟩ hn46
            have hX2 : Xs σ2 tc mg pr := hX1.fr (hf2 0 (by omega))
            have hS2 : Sp σ2 n w := hS1.fr (hf2 1 (by omega)) (hf2 2 (by omega))
            have hT2 : Ta σ2 ct mt := hT.fr (fun j h1 h2 => (hf2 j (by omega)).trans ((hf j (by omega)).trans (hτ j (by omega))))
            refine tg_iload_n C dX4_layCostsForCut_46 47 rfl rfl 3 rfl ?_
            refine tg_aload_n C dX4_layCostsForCut_47 48 rfl rfl 0 rfl ?_
            refine tg_get (T := TX4) (N := 8) (Cn := RX4) C 0 (by decide) (e_0 ad cy _) rfl w1 5 (by decide) w3 rfl rfl dX4_layCostsForCut_48 51 rfl ?_
            refine tg_top (y := nI tc) (hX2.1) ?_
            refine tg_icmp_ge C 81 dX4_layCostsForCut_51 (by decide) 54 rfl (fun c51 => ?_) (fun c51 => ?_)
            · -- to 81
              replace c51 : tc ≤ t := (nI_leI (by omega) (by omega)).mp c51
              refine tg_iinc C (nI (p9 + 1)) dX4_layCostsForCut_81 84 rfl 1 rfl (nI_add p9 1) [(1, .int (nI (p9 + 1))), (0, .ref (ad 0)), (2, .int (nI (rn n w p9))), (3, .int (nI t))] (by decide) rfl ?_
              refine tg_goto C 24 dX4_layCostsForCut_84 (by decide) ?_
              refine tg_sub [1, 0] rfl ?_
              refine ih24 (p9 + 1) σ2 ⟨by omega, fun q t hq ht9 => ?_, fun j hj => by rw [hf2 j (by omega)]; exact hf j hj⟩ (by omega)
              by_cases hqp : q = p9
              · rw [hqp]; exact hr2 t (by omega)
              · rw [hf2 (53 + q) (by omega)]; exact hr q t (by omega) ht9
            · -- on
              replace c51 : ¬ tc ≤ t := fun q => c51 ((nI_leI (by omega) (by omega)).mpr q)
              refine tg_aload_n C dX4_layCostsForCut_54 55 rfl rfl 0 rfl ?_
              refine tg_get (T := TX4) (N := 8) (Cn := RX4) C 0 (by decide) (e_0 ad cy _) rfl w1 4 (by decide) w0 rfl rfl dX4_layCostsForCut_55 58 rfl ?_
              refine tg_get (T := TX0) (N := 6) (Cn := RX0) C 51 (by decide) (e_51 ad cy _) rfl w6 0 (by decide) w5 rfl rfl dX4_layCostsForCut_58 61 rfl ?_
              refine tg_iload_n C dX4_layCostsForCut_61 62 rfl rfl 1 rfl ?_
              refine tg_aald C 52 2 (by decide) ((e_52 ad cy) _) rfl rfl p9 rfl (by omega) (by decide) dX4_layCostsForCut_62 63 rfl ?_
              refine tg_iload_n C dX4_layCostsForCut_63 64 rfl rfl 3 rfl ?_
              refine tg_aload_n C dX4_layCostsForCut_64 65 rfl rfl 0 rfl ?_
              refine tg_get (T := TX4) (N := 8) (Cn := RX4) C 0 (by decide) (e_0 ad cy _) rfl w1 2 (by decide) w7 rfl rfl dX4_layCostsForCut_65 68 rfl ?_
              refine tg_iload_n C dX4_layCostsForCut_68 69 rfl rfl 3 rfl ?_
              refine tg_aald C 5 1 (by decide) (e_5 ad cy _) rfl rfl t rfl (by omega) (by decide) dX4_layCostsForCut_69 70 rfl ?_
              refine tg_iload_n C dX4_layCostsForCut_70 71 rfl rfl 2 rfl ?_
              refine tg_callVi C (6 + t) (isTy.at (show t < 5 by omega)).lt ((isTy.at (show t < 5 by omega)).e ad cy _) rfl (c_X3_costOf l D cy ad hDis σ2 (isTy.at (show t < 5 by omega)) (hT2 t (by omega)) (r9 := rn n w p9) (hrn p9)) (cwV 1 C.2.2.2.2.1 gX4_layCostsForCut_X3_costOf rfl rfl rfl (by decide +kernel) ⟨Nat.le_of_ble_eq_true rfl, Nat.le_of_ble_eq_true rfl⟩) rfl rfl (Nat.le_of_ble_eq_true rfl) ⟨Nat.le_of_ble_eq_true rfl, Nat.le_of_ble_eq_true rfl⟩ dX4_layCostsForCut_71 74 rfl (fun r71 τ71 h71 => ?_)
              obtain ⟨h71, h71s⟩ := h71
              subst h71s
              subst h71
              refine tg_iast C (53 + p9) (by omega) (e_rowC ad cy (show p9 < 17 by omega)) t rfl (by omega) (by decide) dX4_layCostsForCut_74 75 rfl ?_
              refine tg_iinc C (nI (t + 1)) dX4_layCostsForCut_75 78 rfl 3 rfl (nI_add t 1) [(3, .int (nI (t + 1))), (0, .ref (ad 0)), (1, .int (nI p9)), (2, .int (nI (rn n w p9)))] (by decide) rfl ?_
              refine tg_goto C 46 dX4_layCostsForCut_78 (by decide) ?_
              refine tg_sub [1, 2, 3, 0] rfl ?_
              exact ih46 (t + 1) (su σ2 (53 + p9) t (nI (kst n w ct mt p9 t))) ⟨by omega, fun u hu => by
                  rw [su_ap]
                  split
                  · rename_i hh; rw [hh.2]
                  · exact hr2 u (by omega), fun j hj => by rw [su_ni _ _ _ hj]; exact hf2 j hj⟩ (by omega)
        refine tg_sub [2, 3, 1, 0] rfl ?_
        exact L46 _ 0 σ1 ⟨by omega, fun u h => by omega, fun j _ => rfl⟩ (Nat.lt_succ_self _)
  refine tg_sub [1, 0] rfl ?_
  exact L24 _ 0 τ19 ⟨by omega, fun q t h => by omega, fun j _ => rfl⟩ (Nat.lt_succ_self _)
