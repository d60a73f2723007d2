/-! ===== the law's loop ===== -/
theorem law_len {L k : Nat} (hL : L ≤ 1536) (hk : k ≤ 2000) (h : ¬ nI L - nI 3 < nI k) : k + 3 ≤ L := by
  by_cases h3 : 3 ≤ L
  · have e : nI L - nI 3 = nI (L - 3) := pk_sub h3
    rw [e] at h
    have : k ≤ L - 3 := Nat.le_of_not_lt fun h9 => h (nI_lt h9 (by omega))
    omega
  · exfalso
    have h0 : (0 : Int32) ≤ nI k := Int32.not_lt.mp (nI_pos (by omega))
    have hn : nI L - nI 3 < 0 := by
      rcases (show L = 0 ∨ L = 1 ∨ L = 2 by omega) with rfl | rfl | rfl <;> decide
    exact h (Int32.lt_of_lt_of_le hn h0)
section LawLoop
variable {p : Program} {l : Launch} {e : Env} {s : State} {m : MethodId} {args : Array Value} {below : List Frame} {meth : Method} {c : Code} {D : va_G} {cy : Nat → ClassId} {ad : Nat → Nat} {A : Nat → Prop} {Q : State → Prop} {b L : Nat} {xs : Nat → Int32}
set_option maxHeartbeats 1000000 in
set_option maxRecDepth 20000 in
theorem law_loop (C : Cx p s m args c cL_law 7 RL wsL_law D cy ad A) (hE : Ev A s s.heap) (hl0 : l.stackTraces = false) (hXs : va_X b L xs s s.heap) (hbl : b < s.heap.size) (hbA : ¬ A b) (hL : L ≤ 1536)
    (kend : ∀ (σ : sS) (i : Int32) (cl sl : Nat), cl ≤ 2000 → sl ≤ 10000 → TT p l e room_1 s m args below meth c D cy ad A 7 cl sl Q σ 1273 (lvL ad b i) []) :
    ∀ (n cn : Nat), 600 - cn < n → cn ≤ 513 → ∀ σ : sS, Rel σ cn → TT p l e room_1 s m args below meth c D cy ad A 7 (97 + 2 * cn) (2000 + 12 * cn) Q σ 23 (lvL ad b (nI (3 * cn))) [] := by
  intro n
  induction n with
  | zero => intro cn h; omega
  | succ n ih =>
    intro cn hn hc σ hR
    refine tg_iload C dL_law_23 25 rfl 0 rfl ?_
    refine tg_aload_n C dL_law_25 26 rfl rfl 4 rfl ?_
    refine tg_slen C hXs hbl hbA dL_law_26 27 rfl ?_
    refine tg_iconst C (nI 3) dL_law_27 28 rfl (by decide) ?_
    refine tg_isub C (nI L - nI 3) dL_law_28 29 rfl rfl ?_
    refine tg_icmp_gt C 1273 dL_law_29 (by decide) 32 rfl (fun _ => kend σ _ _ _ (by omega) (by omega)) (fun hlt => ?_)
    have hj : 3 * cn + 3 ≤ L := law_len hL (by omega) hlt
    have hb2 : ∀ σ2, Rel σ2 (cn + 1) → TT p l e room_1 s m args below meth c D cy ad A 7 (97 + 2 * cn + 2) (2000 + 12 * cn + 12) Q σ2 1267 (lvL ad b (nI (3 * cn))) [] := fun σ2 hR2 => by
      refine tg_iinc C (nI (3 * (cn + 1))) dL_law_1267 1270 rfl 0 rfl (nI_add _ 3) _ (by decide) rfl ?_
      refine tg_goto C 23 dL_law_1270 (by decide) ?_
      exact ih (cn + 1) (by omega) (by omega) σ2 hR2
    have hcl : 97 + 2 * cn + 2 ≤ room_1.cells ∧ 2000 + 12 * cn + 12 ≤ room_1.slots := ⟨Nat.le_trans (show 97 + 2 * cn + 2 ≤ 2000 by omega) (Nat.le_of_ble_eq_true rfl), Nat.le_trans (show 2000 + 12 * cn + 12 ≤ 10000 by omega) (Nat.le_of_ble_eq_true rfl)⟩
    refine tg_aload_n C dL_law_32 33 rfl rfl 4 rfl ?_
    refine tg_iload C dL_law_33 35 rfl 0 rfl ?_
    refine tg_sld C hXs hbl hbA (vp_in_nI (by omega) (by omega)) dL_law_35 36 rfl ?_
    refine tg_bipush C (nI 31) dL_law_36 38 rfl (by decide) ?_
    refine tg_iand C _ dL_law_38 39 rfl rfl ?_
    generalize xs (nI (3 * cn)).toNatClampNeg &&& nI 31 = v
    by_cases hout : v.toInt < 0 ∨ 23 < v.toInt
    · refine tg_tableOut C 1267 dL_law_39 hout (by decide) ?_
      refine tg_widen (by omega) (by omega) (hb2 σ ?_)
      obtain ⟨n9, w, tc, mg, pr, tx, nx, nm, wh, wd, kp, loc, h⟩ := hR
      exact h.more.rel
    · have hlo : ¬ v.toInt < 0 := fun h => hout (Or.inl h)
      have hhi : ¬ 23 < v.toInt := fun h => hout (Or.inr h)
      obtain ⟨k, hk⟩ : ∃ k : Nat, v.toInt = (k : Int) := ⟨v.toInt.toNat, (Int.toNat_of_nonneg (by omega)).symm⟩
      have hk24 : k < 24 := by omega
      match k, hk, hk24 with
      | 0, hk, _ => exact tg_tableIn C 148 dL_law_39 hlo hhi (by rw [hk]; rfl) (by decide) (law_spell C hE hl0 hXs hbl hbA hj hL hR (by omega) hcl hb2)
      | 1, hk, _ => exact tg_tableIn C 206 dL_law_39 hlo hhi (by rw [hk]; rfl) (by decide) (law_clearSpelled C hE hl0 hXs hbl hbA hj hL hR (by omega) hcl hb2)
      | 2, hk, _ => exact tg_tableIn C 219 dL_law_39 hlo hhi (by rw [hk]; rfl) (by decide) (law_runs C hE hl0 hXs hbl hbA hj hL hR (by omega) hcl hb2)
      | 3, hk, _ => exact tg_tableIn C 232 dL_law_39 hlo hhi (by rw [hk]; rfl) (by decide) (law_runAt C hE hl0 hXs hbl hbA hj hL hR (by omega) hcl hb2)
      | 4, hk, _ => exact tg_tableIn C 288 dL_law_39 hlo hhi (by rw [hk]; rfl) (by decide) (law_addTongue C hE hl0 hXs hbl hbA hj hL hR (by omega) hcl hb2)
      | 5, hk, _ => exact tg_tableIn C 332 dL_law_39 hlo hhi (by rw [hk]; rfl) (by decide) (law_tongues C hE hl0 hXs hbl hbA hj hL hR (by omega) hcl hb2)
      | 6, hk, _ => exact tg_tableIn C 345 dL_law_39 hlo hhi (by rw [hk]; rfl) (by decide) (law_teach C hE hl0 hXs hbl hbA hj hL hR (by omega) hcl hb2)
      | 7, hk, _ => exact tg_tableIn C 401 dL_law_39 hlo hhi (by rw [hk]; rfl) (by decide) (law_withdraw C hE hl0 hXs hbl hbA hj hL hR (by omega) hcl hb2)
      | 8, hk, _ => exact tg_tableIn C 457 dL_law_39 hlo hhi (by rw [hk]; rfl) (by decide) (law_tongueOf C hE hl0 hXs hbl hbA hj hL hR (by omega) hcl hb2)
      | 9, hk, _ => exact tg_tableIn C 513 dL_law_39 hlo hhi (by rw [hk]; rfl) (by decide) (law_total C hE hl0 hXs hbl hbA hj hL hR (by omega) hcl hb2)
      | 10, hk, _ => exact tg_tableIn C 569 dL_law_39 hlo hhi (by rw [hk]; rfl) (by decide) (law_count C hE hl0 hXs hbl hbA hj hL hR (by omega) hcl hb2)
      | 11, hk, _ => exact tg_tableIn C 637 dL_law_39 hlo hhi (by rw [hk]; rfl) (by decide) (law_cost C hE hl0 hXs hbl hbA hj hL hR (by omega) hcl hb2)
      | 12, hk, _ => exact tg_tableIn C 705 dL_law_39 hlo hhi (by rw [hk]; rfl) (by decide) (law_rank C hE hl0 hXs hbl hbA hj hL hR (by omega) hcl hb2)
      | 13, hk, _ => exact tg_tableIn C 773 dL_law_39 hlo hhi (by rw [hk]; rfl) (by decide) (law_textCost C hE hl0 hXs hbl hbA hj hL hR (by omega) hcl hb2)
      | 14, hk, _ => exact tg_tableIn C 829 dL_law_39 hlo hhi (by rw [hk]; rfl) (by decide) (law_distance C hE hl0 hXs hbl hbA hj hL hR (by omega) hcl hb2)
      | 15, hk, _ => exact tg_tableIn C 885 dL_law_39 hlo hhi (by rw [hk]; rfl) (by decide) (law_setMargin C hE hl0 hXs hbl hbA hj hL hR (by omega) hcl hb2)
      | 16, hk, _ => exact tg_tableIn C 941 dL_law_39 hlo hhi (by rw [hk]; rfl) (by decide) (law_tell C hE hl0 hXs hbl hbA hj hL hR (by omega) hcl hb2)
      | 17, hk, _ => exact tg_tableIn C 954 dL_law_39 hlo hhi (by rw [hk]; rfl) (by decide) (law_tellByRanks C hE hl0 hXs hbl hbA hj hL hR (by omega) hcl hb2)
      | 18, hk, _ => exact tg_tableIn C 967 dL_law_39 hlo hhi (by rw [hk]; rfl) (by decide) (law_setPrice C hE hl0 hXs hbl hbA hj hL hR (by omega) hcl hb2)
      | 19, hk, _ => exact tg_tableIn C 1023 dL_law_39 hlo hhi (by rw [hk]; rfl) (by decide) (law_cutCost C hE hl0 hXs hbl hbA hj hL hR (by omega) hcl hb2)
      | 20, hk, _ => exact tg_tableIn C 1067 dL_law_39 hlo hhi (by rw [hk]; rfl) (by decide) (law_cutCostByTrying C hE hl0 hXs hbl hbA hj hL hR (by omega) hcl hb2)
      | 21, hk, _ => exact tg_tableIn C 1111 dL_law_39 hlo hhi (by rw [hk]; rfl) (by decide) (law_cutTongue C hE hl0 hXs hbl hbA hj hL hR (by omega) hcl hb2)
      | 22, hk, _ => exact tg_tableIn C 1167 dL_law_39 hlo hhi (by rw [hk]; rfl) (by decide) (law_stretches C hE hl0 hXs hbl hbA hj hL hR (by omega) hcl hb2)
      | 23, hk, _ => exact tg_tableIn C 1211 dL_law_39 hlo hhi (by rw [hk]; rfl) (by decide) (law_learn C hE hl0 hXs hbl hbA hj hL hR (by omega) hcl hb2)
      | _ + 24, _, h9 => exact absurd h9 (by omega)
end LawLoop
