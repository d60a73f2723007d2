/-! ===== the law, behind a turn's call: both checks ===== -/
section LawTail
variable {p : Program} {l : Launch} {e : Env} {s : State} {m : MethodId} {args : Array Value} {below : List Frame} {meth : Method} {c : Code} {D : va_G} {cy : Nat → ClassId} {ad : Nat → Nat} {A : Nat → Prop} {cells slots : Nat} {Q : State → Prop} {σ : sS} {b L : Nat} {xs : Nat → Int32}
variable {n : Nat} {w : Nat → Nat} {tc pr tx nx : Nat} {ct : Nat → Nat → Nat} {mt : Nat → Nat} {tn wh : Nat} {vv wv : Int32}
abbrev lvH (ad : Nat → Nat) (b n pr tx tn : Nat) : List (Nat × Value) := [(5, .int (nI tn)), (4, .int (nI tx)), (3, .int (nI pr)), (2, .int (nI n)), (1, .ref (ad 0)), (0, .ref b)]
set_option maxHeartbeats 4000000 in
set_option maxRecDepth 100000 in
theorem law_tail (C : Cx p s m args c cL_law 12 RL wsL_law D cy ad A) (hE : Ev A s s.heap) (hl0 : l.stackTraces = false) (hc : cells + 243 ≤ 600172) (hs : slots + 1458 ≤ 7300668) (I : Inv σ n w tc pr tx nx ct mt) (htc : 0 < tc) (hnx : nx ≤ tn + 1) (htn : tn < 60) (kk : ∀ τ : sS, Inv τ n w tc pr tx nx ct mt → TT p l e room_1 s m args below meth c D cy ad A 12 (cells + 243) (slots + 1458) Q τ 23 (lvH ad b n pr tx (tn + 1)) []) : TT p l e room_1 s m args below meth c D cy ad A 12 (cells + 4) (slots + 24) Q σ 340 [(9, .int (nI 1)), (7, .int wv), (5, .int (nI tn)), (4, .int (nI tx)), (3, .int (nI pr)), (2, .int (nI n)), (1, .ref (ad 0)), (0, .ref b)] [] := by
  have hDis := C.2.2.2.2.2.2.1
  have hX := I.X
  have hS := I.S
  have hT := I.T
  have hn16 := hS.2.1
  have htc5 := hX.2.2.2.1
  have hpr := hX.2.2.2.2.2
  have htx := I.tx_le
  refine tg_iload C dL_law_340 342 rfl 0 rfl ?_
  refine tg_if_eq C 373 dL_law_342 (by decide) 345 rfl (fun c342 => absurd c342 (by decide)) (fun c342 => ?_)
  refine tg_aload_n C dL_law_345 346 rfl rfl 6 rfl ?_
  refine tg_iload C dL_law_346 348 rfl 1 rfl ?_
  refine tg_bipush C (nI 8) dL_law_348 350 rfl (by decide) ?_
  refine tg_ishr C dL_law_350 351 rfl (fun z350 => ?_)
  refine tg_aload_n C dL_law_351 352 rfl rfl 6 rfl ?_
  refine tg_callVi C 0 (by decide) (e_0 ad cy _) rfl (c_X4_tongues l D cy ad hDis σ hX) (cwV 0 C.2.2.2.2.1 gL_law_X4_tongues rfl rfl rfl (by decide +kernel) ⟨(Nat.le_of_ble_eq_true rfl), (Nat.le_of_ble_eq_true rfl)⟩) rfl rfl (Nat.le_of_ble_eq_true rfl) ⟨(show cells + 4 ≤ 600172 by omega), (show slots + 24 ≤ 7300668 by omega)⟩ dL_law_352 355 rfl (fun r352 τ352 h352 => ?_)
  obtain ⟨h352, h352s⟩ := h352
  subst h352s
  subst h352
  refine tg_callSi C (c_L_low l D cy ad hDis σ (N9 := tc) htc (by omega)) (cwS 2 C.2.2.2.2.1 gL_law_L_low rfl rfl rfl (by decide +kernel) ⟨(Nat.le_of_ble_eq_true rfl), (Nat.le_of_ble_eq_true rfl)⟩) rfl rfl (Nat.le_of_ble_eq_true rfl) ⟨(show cells + 4 ≤ 600172 by omega), (show slots + 24 ≤ 7300668 by omega)⟩ dL_law_355 358 rfl (fun r355 τ355 h355 => ?_)
  obtain ⟨h355, h355s⟩ := h355
  subst h355s
  obtain ⟨tg, htg, h355⟩ := h355
  subst h355
  refine tg_callYS C hE (c_L_areCosts l hl0 D cy ad hDis σ hX hT (t := tg) htg (I.2.2.2.1 tg (by omega)).1) (cwS 2 C.2.2.2.2.1 gL_law_L_areCosts rfl rfl rfl (by decide +kernel) ⟨(Nat.le_of_ble_eq_true rfl), (Nat.le_of_ble_eq_true rfl)⟩) rfl rfl (Nat.le_of_ble_eq_true rfl) ⟨(show cells + 4 + 145 ≤ 600172 by omega), (show slots + 24 + 870 ≤ 7300668 by omega)⟩ dL_law_358 361 rfl (fun r358 τ358 h358 => ?_)
  obtain ⟨h358, h358s⟩ := h358
  subst h358s
  subst h358
  refine tg_if_eq C 373 dL_law_361 (by decide) 364 rfl (fun c361 => absurd c361 (by decide)) (fun c361 => ?_)
  refine tg_aload_n C dL_law_364 365 rfl rfl 6 rfl ?_
  refine tg_iload_n C dL_law_365 366 rfl rfl 4 rfl ?_
  refine tg_iload_n C dL_law_366 367 rfl rfl 5 rfl ?_
  refine tg_callYS C hE (c_L_isCut l hl0 D cy ad hDis σ hX hS hT htc) (cwS 3 C.2.2.2.2.1 gL_law_L_isCut rfl rfl rfl (by decide +kernel) ⟨(Nat.le_of_ble_eq_true rfl), (Nat.le_of_ble_eq_true rfl)⟩) rfl rfl (Nat.le_of_ble_eq_true rfl) ⟨(show cells + 4 + 145 + 94 ≤ 600172 by omega), (show slots + 24 + 870 + 564 ≤ 7300668 by omega)⟩ dL_law_367 370 rfl (fun r367 τ367 h367 => ?_)
  obtain ⟨h367, h367s⟩ := h367
  subst h367
  refine tg_if_ne C 375 dL_law_370 (by decide) 373 rfl (fun c370 => ?_) (fun c370 => absurd c370 (by decide))
  refine tg_iinc C (nI (tn + 1)) dL_law_375 378 rfl 2 rfl (nI_add tn 1) [(5, .int (nI (tn + 1))), (9, .int (nI 1)), (7, .int wv), (4, .int (nI tx)), (3, .int (nI pr)), (2, .int (nI n)), (1, .ref (ad 0)), (0, .ref b)] (by decide) rfl ?_
  refine tg_goto C 23 dL_law_378 (by decide) ?_
  refine tg_widen (k := cells + 243) (n := slots + 1458) (by omega) (by omega) ?_
  refine tg_sub [0, 3, 4, 5, 6, 7] rfl ?_
  exact kk τ367 (I.fr h367s)
end LawTail
