/-! ===== the law: behind both calls ===== -/
section LawT
variable {p : Program} {l : Launch} {e : Env} {s : State} {m : MethodId} {args : Array Value} {below : List Frame} {meth : Method} {c : Code} {D : va_G} {cy : Nat → ClassId} {ad : Nat → Nat} {A : Nat → Prop} {cells slots : Nat} {Q : State → Prop} {σ : sS} {b : Nat} {i : Int32}
abbrev lvL (ad : Nat → Nat) (b : Nat) (i : Int32) : List (Nat × Value) := [(4, .int i), (3, .ref (ad 96)), (2, .ref (ad 89)), (1, .ref (ad 0)), (0, .ref b)]
abbrev lvL2 (ad : Nat → Nat) (b : Nat) (i r r5 : Int32) : List (Nat × Value) := [(6, .int r5), (5, .int r), (4, .int i), (3, .ref (ad 96)), (2, .ref (ad 89)), (1, .ref (ad 0)), (0, .ref b)]
theorem law_tail (C : Cx p s m args c cL_law 7 RL wsL_law D cy ad A) (hcl : cells ≤ room_1.cells ∧ slots ≤ room_1.slots) {r r5 : Int32} {cn : Nat} (hAg : Agree r σ r5 cn) (p0 : Nat) (d0 : decode cL_law p0 = .ok (.aload_n 2, 1)) (d1 : decode cL_law (p0 + 1) = .ok (.invokevirtual 88, 3)) (d4 : decode cL_law (p0 + 4) = .ok (.iload 5, 2)) (d6 : decode cL_law (p0 + 6) = .ok (.if_icmp .eq 5, 3)) (d11 : decode cL_law (p0 + 11) = .ok (.iload 5, 2)) (d13 : decode cL_law (p0 + 13) = .ok (.ifCond .ne 15, 3)) (d16 : decode cL_law (p0 + 16) = .ok (.aload_n 3, 1)) (d17 : decode cL_law (p0 + 17) = .ok (.iconst 0, 1)) (d18 : decode cL_law (p0 + 18) = .ok (.laload, 1)) (d19 : decode cL_law (p0 + 19) = .ok (.iload 6, 2)) (d21 : decode cL_law (p0 + 21) = .ok (.i2l, 1)) (d22 : decode cL_law (p0 + 22) = .ok (.lcmp, 1)) (d23 : decode cL_law (p0 + 23) = .ok (.ifCond .eq 5, 3))
    (kk : TT p l e room_1 s m args below meth c D cy ad A 7 cells slots Q σ (p0 + 28) (lvL ad b i) []) : TT p l e room_1 s m args below meth c D cy ad A 7 cells slots Q σ p0 (lvL2 ad b i r r5) [] := by
  have hk2 : TT p l e room_1 s m args below meth c D cy ad A 7 cells slots Q σ (p0 + 28) (lvL2 ad b i r r5) [] := tg_sub [2, 3, 4, 5, 6] rfl kk
  refine tg_aload_n C d0 (p0 + 1) rfl rfl 4 rfl ?_
  refine tg_callVi C 89 (by decide) (e_89 ad cy _) rfl (c_X5_thrown l D cy ad C.2.2.2.2.2.2.1 σ) (cwV 0 C.2.2.2.2.1 gL_law_X5_thrown rfl rfl rfl (by decide +kernel) ⟨Nat.le_of_ble_eq_true rfl, Nat.le_of_ble_eq_true rfl⟩) rfl rfl (Nat.le_of_ble_eq_true rfl) hcl d1 (p0 + 4) rfl (fun r9 τ h9 => ?_)
  obtain ⟨rfl, rfl⟩ := h9
  refine tg_iload C d4 (p0 + 6) rfl 1 rfl ?_
  refine tg_icmp_eq C (p0 + 11) d6 (by omega) (p0 + 9) rfl (fun _ => ?_) (fun h => absurd hAg.1 h)
  refine tg_iload C d11 (p0 + 13) rfl 1 rfl ?_
  refine tg_if_ne C (p0 + 28) d13 (by omega) (p0 + 16) rfl (fun _ => hk2) (fun h0 => ?_)
  refine tg_aload_n C d16 (p0 + 17) rfl rfl 3 rfl ?_
  refine tg_iconst C (nI 0) d17 (p0 + 18) rfl (by decide) ?_
  refine tg_lald C d18 (p0 + 19) rfl ?_
  refine tg_iload C d19 (p0 + 21) rfl 0 rfl ?_
  refine tg_i2l C d21 (p0 + 22) rfl ?_
  rw [hAg.2.1 h0]
  refine tg_lcmp0 C d22 (p0 + 23) rfl ?_
  exact tg_if_eq C (p0 + 28) d23 (by omega) (p0 + 26) rfl (fun _ => hk2) (fun h => absurd rfl h)
end LawT
