/-! ===== the constructors ===== -/
set_option maxHeartbeats 4000000 in
set_option maxRecDepth 100000 in
theorem k_X2 (l : Launch) (D : va_G) (cy : Nat → ClassId) (h0 : Nat) : MetC l yX2_init wsX2_init 1 12 1 16 D cy [.ref h0] [(h0, .inr (2, [.null, .int 0]))] (fun u => ∃ q : Nat, u = [(h0, .inr (2, [.ref q, .int 0]))] ++ [(q, .inl (cy 0, 16, .inl (fun _ => 0)))]) := by
  intro sz
  refine Met.ofW (cc := cX2_init) (maxL := 1) (ret := none) (by decide) rfl ?_
  intro p e s m args below meth c s₁ B hml hv
  obtain ⟨rfl, hsz, hP, hK, hD0, hC⟩ := hv
  have hx := B.exec
  have hb := B.bytes
  have hr := B.returns
  have hts := atoms_spec (ws := wsX2_init) B.pre
  have hown : s.vm.findClass RX2 = some m.cls := findClass_of_methodNamed B.named
  have hlocks := B.notSynchronized
  have hin : meth.name = "<init>" := (name_of_methodNamed B.named B.method).1
  subst hsz
  have hD := hD0.self (sz := s.heap.size)
  generalize hAe : va_A [(h0, .inr (2, [.null, .int 0]))] s.heap.size = A at hD ⊢
  have hA : ∀ q : Nat, s.heap.size ≤ q → A q := fun q h => by rw [← hAe]; exact Or.inr h
  have hS : va_S A s.heap s.heap [] := va_S.rf
  have hl := lv_entry ([.ref h0]) (n := 1) (Nat.le_of_ble_eq_true rfl)
  rw [lg_entry_eq]
  generalize (lg_sl ([.ref h0]) ++ List.replicate (1 - (lg_sl ([.ref h0])).length) Slot.unset).toArray = ls at hl ⊢
  have hl : lv_has ls 1 [(0, .ref h0)] := hl
  have hin0 : ∀ w ∈ u_ws RX2 TX2 2, w ∈ wsX2_init := by decide +kernel
  refine lv_aload_n hx hb dX2_init_0 rfl (lv_at hl 0 rfl) ?_
  refine W.objInit hx hb hown (hts (.methodLink RX2 3 objectInit) (by decide +kernel)) (hts (.instanceMethod objectInit) (by decide +kernel)) (hts (.code objectInit ⟨#[0xb1]⟩ 1 none) (by decide +kernel)) rfl (by rw [hml]; exact hl.1) rfl dX2_init_1 (Nat.le_of_ble_eq_true rfl) (Nat.le_of_ble_eq_true rfl) ?_
  refine W.eq (g2 := F0 m 4 ls []) rfl ?_
  refine lv_aload_n hx hb dX2_init_4 rfl (lv_at hl 0 rfl) ?_
  refine lv_bipush (v := 16) hx hb dX2_init_5 (by decide) ?_
  refine tn_newa (N' := 16) hx hb (hts (.arrayClass .int) (by decide +kernel)) hK hP hD hS hA (by decide) (by decide) (Nat.le_of_ble_eq_true rfl) (Nat.le_of_ble_eq_true rfl) (Nat.le_of_ble_eq_true rfl) dX2_init_7 (fun q7 H hP hD hS => ?_)
  refine va_putF (D := D) (ci := 2) (v := .ref q7) (ty := .array .int) (C := RX2) (T := TX2) (N := 2) hx hb hts hin0 tyX2 tyX2_ok nmX2 hown hK hP hD hS 0 rfl rfl 0 (by decide) (hts (.fieldLink RX2 9 "Tonguetell$Spelling" "letters" "[I") (by decide +kernel)) (fun _ h9 => h9) rfl hin rfl (by decide +kernel) rfl rfl (Nat.le_of_ble_eq_true rfl) dX2_init_9 (fun H locs hP hD hS => ?_)
  have hP : va_P D vwCl ([(h0, .inr (2, [.ref q7, .int 0]))] ++ [(q7, .inl (cy 0, 16, .inl (fun _ => 0)))]) H := hP
  have hD : va_D A ([(h0, .inr (2, [.ref q7, .int 0]))] ++ [(q7, .inl (cy 0, 16, .inl (fun _ => 0)))]) := hD
  refine lv_aload_n hx hb dX2_init_12 rfl (lv_at hl 0 rfl) ?_
  refine lv_iconst (v := 0) hx hb dX2_init_13 (by decide) ?_
  refine va_put (D := D) (ci := 2) (v := .int 0) (ty := .int) (C := RX2) (T := TX2) (N := 2) hx hb hts hin0 tyX2 tyX2_ok nmX2 hown hK hP hD hS 0 rfl rfl 1 (by decide) (hts (.fieldLink RX2 15 "Tonguetell$Spelling" "length" "I") (by decide +kernel)) (fun _ h9 => h9) rfl (by decide +kernel) rfl rfl (Nat.le_of_ble_eq_true rfl) dX2_init_14 (fun H locs hP hD hS => ?_)
  have hP : va_P D vwCl ([(h0, .inr (2, [.ref q7, .int 0]))] ++ [(q7, .inl (cy 0, 16, .inl (fun _ => 0)))]) H := hP
  have hD : va_D A ([(h0, .inr (2, [.ref q7, .int 0]))] ++ [(q7, .inl (cy 0, 16, .inl (fun _ => 0)))]) := hD
  refine W.widen (k := 1) (n := 16) (Nat.le_of_ble_eq_true rfl) (Nat.le_of_ble_eq_true rfl) ?_
  exact W.vret hx hb hr (fun t ht hW => ⟨⟨_, rfl, ⟨q7, rfl⟩, by rw [ht]; exact hP, va_K.moved hW.alike hK, hD⟩, hS.F ht⟩) hS.2.2 dX2_init_17
set_option maxHeartbeats 4000000 in
set_option maxRecDepth 100000 in
theorem k_X3 (l : Launch) (D : va_G) (cy : Nat → ClassId) (h0 : Nat) : MetC l yX3_init wsX3_init 1 12 1 36 D cy [.ref h0] [(h0, .inr (3, [.null, .int 0]))] (fun u => ∃ q : Nat, u = [(h0, .inr (3, [.ref q, .int 0]))] ++ [(q, .inl (cy 0, 36, .inl (fun _ => 0)))]) := by
  intro sz
  refine Met.ofW (cc := cX3_init) (maxL := 1) (ret := none) (by decide) rfl ?_
  intro p e s m args below meth c s₁ B hml hv
  obtain ⟨rfl, hsz, hP, hK, hD0, hC⟩ := hv
  have hx := B.exec
  have hb := B.bytes
  have hr := B.returns
  have hts := atoms_spec (ws := wsX3_init) B.pre
  have hown : s.vm.findClass RX3 = some m.cls := findClass_of_methodNamed B.named
  have hlocks := B.notSynchronized
  have hin : meth.name = "<init>" := (name_of_methodNamed B.named B.method).1
  subst hsz
  have hD := hD0.self (sz := s.heap.size)
  generalize hAe : va_A [(h0, .inr (3, [.null, .int 0]))] s.heap.size = A at hD ⊢
  have hA : ∀ q : Nat, s.heap.size ≤ q → A q := fun q h => by rw [← hAe]; exact Or.inr h
  have hS : va_S A s.heap s.heap [] := va_S.rf
  have hl := lv_entry ([.ref h0]) (n := 1) (Nat.le_of_ble_eq_true rfl)
  rw [lg_entry_eq]
  generalize (lg_sl ([.ref h0]) ++ List.replicate (1 - (lg_sl ([.ref h0])).length) Slot.unset).toArray = ls at hl ⊢
  have hl : lv_has ls 1 [(0, .ref h0)] := hl
  have hin0 : ∀ w ∈ u_ws RX3 TX3 2, w ∈ wsX3_init := by decide +kernel
  refine lv_aload_n hx hb dX3_init_0 rfl (lv_at hl 0 rfl) ?_
  refine W.objInit hx hb hown (hts (.methodLink RX3 3 objectInit) (by decide +kernel)) (hts (.instanceMethod objectInit) (by decide +kernel)) (hts (.code objectInit ⟨#[0xb1]⟩ 1 none) (by decide +kernel)) rfl (by rw [hml]; exact hl.1) rfl dX3_init_1 (Nat.le_of_ble_eq_true rfl) (Nat.le_of_ble_eq_true rfl) ?_
  refine W.eq (g2 := F0 m 4 ls []) rfl ?_
  refine lv_aload_n hx hb dX3_init_4 rfl (lv_at hl 0 rfl) ?_
  refine lv_bipush (v := 36) hx hb dX3_init_5 (by decide) ?_
  refine tn_newa (N' := 36) hx hb (hts (.arrayClass .int) (by decide +kernel)) hK hP hD hS hA (by decide) (by decide) (Nat.le_of_ble_eq_true rfl) (Nat.le_of_ble_eq_true rfl) (Nat.le_of_ble_eq_true rfl) dX3_init_7 (fun q7 H hP hD hS => ?_)
  refine va_putF (D := D) (ci := 3) (v := .ref q7) (ty := .array .int) (C := RX3) (T := TX3) (N := 2) hx hb hts hin0 tyX3 tyX3_ok nmX3 hown hK hP hD hS 0 rfl rfl 0 (by decide) (hts (.fieldLink RX3 9 "Tonguetell$Tally" "counts" "[I") (by decide +kernel)) (fun _ h9 => h9) rfl hin rfl (by decide +kernel) rfl rfl (Nat.le_of_ble_eq_true rfl) dX3_init_9 (fun H locs hP hD hS => ?_)
  have hP : va_P D vwCl ([(h0, .inr (3, [.ref q7, .int 0]))] ++ [(q7, .inl (cy 0, 36, .inl (fun _ => 0)))]) H := hP
  have hD : va_D A ([(h0, .inr (3, [.ref q7, .int 0]))] ++ [(q7, .inl (cy 0, 36, .inl (fun _ => 0)))]) := hD
  refine lv_aload_n hx hb dX3_init_12 rfl (lv_at hl 0 rfl) ?_
  refine lv_iconst (v := 0) hx hb dX3_init_13 (by decide) ?_
  refine va_put (D := D) (ci := 3) (v := .int 0) (ty := .int) (C := RX3) (T := TX3) (N := 2) hx hb hts hin0 tyX3 tyX3_ok nmX3 hown hK hP hD hS 0 rfl rfl 1 (by decide) (hts (.fieldLink RX3 15 "Tonguetell$Tally" "sum" "I") (by decide +kernel)) (fun _ h9 => h9) rfl (by decide +kernel) rfl rfl (Nat.le_of_ble_eq_true rfl) dX3_init_14 (fun H locs hP hD hS => ?_)
  have hP : va_P D vwCl ([(h0, .inr (3, [.ref q7, .int 0]))] ++ [(q7, .inl (cy 0, 36, .inl (fun _ => 0)))]) H := hP
  have hD : va_D A ([(h0, .inr (3, [.ref q7, .int 0]))] ++ [(q7, .inl (cy 0, 36, .inl (fun _ => 0)))]) := hD
  refine W.widen (k := 1) (n := 36) (Nat.le_of_ble_eq_true rfl) (Nat.le_of_ble_eq_true rfl) ?_
  exact W.vret hx hb hr (fun t ht hW => ⟨⟨_, rfl, ⟨q7, rfl⟩, by rw [ht]; exact hP, va_K.moved hW.alike hK, hD⟩, hS.F ht⟩) hS.2.2 dX3_init_17
set_option maxHeartbeats 4000000 in
set_option maxRecDepth 100000 in
theorem k_X0 (l : Launch) (D : va_G) (cy : Nat → ClassId) (h0 : Nat) : MetC l yX0_init wsX0_init 1 12 37 221 D cy [.ref h0] [(h0, .inr (0, [.null, .null, .null, .int 0, .int 0, .int 0]))] (fun u => ∃ (q1 q2 q3 : Nat) (r1 r3 : Nat → Nat), u = ((((([(h0, .inr (0, [.ref q1, .ref q2, .ref q3, .int 0, .int 0, .int 0]))] ++ [(q1, .inl (cy 2, 17, .inr (.inr (.inr (.inr (fun i => if i < 17 then some (r1 i) else none))))))]) ++ (List.range 17).map (fun i => (r1 i, .inl (cy 0, 5, .inl (fun _ => 0))))) ++ [(q2, .inl (cy 0, 17, .inl (fun _ => 0)))]) ++ [(q3, .inl (cy 2, 17, .inr (.inr (.inr (.inr (fun i => if i < 17 then some (r3 i) else none))))))]) ++ (List.range 17).map (fun i => (r3 i, .inl (cy 0, 5, .inl (fun _ => 0)))))) := by
  intro sz
  refine Met.ofW (cc := cX0_init) (maxL := 1) (ret := none) (by decide) rfl ?_
  intro p e s m args below meth c s₁ B hml hv
  obtain ⟨rfl, hsz, hP, hK, hD0, hC⟩ := hv
  have hx := B.exec
  have hb := B.bytes
  have hr := B.returns
  have hts := atoms_spec (ws := wsX0_init) B.pre
  have hown : s.vm.findClass RX0 = some m.cls := findClass_of_methodNamed B.named
  have hlocks := B.notSynchronized
  have hin : meth.name = "<init>" := (name_of_methodNamed B.named B.method).1
  subst hsz
  have hD := hD0.self (sz := s.heap.size)
  generalize hAe : va_A [(h0, .inr (0, [.null, .null, .null, .int 0, .int 0, .int 0]))] s.heap.size = A at hD ⊢
  have hA : ∀ q : Nat, s.heap.size ≤ q → A q := fun q h => by rw [← hAe]; exact Or.inr h
  have hS : va_S A s.heap s.heap [] := va_S.rf
  have hl := lv_entry ([.ref h0]) (n := 1) (Nat.le_of_ble_eq_true rfl)
  rw [lg_entry_eq]
  generalize (lg_sl ([.ref h0]) ++ List.replicate (1 - (lg_sl ([.ref h0])).length) Slot.unset).toArray = ls at hl ⊢
  have hl : lv_has ls 1 [(0, .ref h0)] := hl
  have hin0 : ∀ w ∈ u_ws RX0 TX0 6, w ∈ wsX0_init := by decide +kernel
  refine lv_aload_n hx hb dX0_init_0 rfl (lv_at hl 0 rfl) ?_
  refine W.objInit hx hb hown (hts (.methodLink RX0 3 objectInit) (by decide +kernel)) (hts (.instanceMethod objectInit) (by decide +kernel)) (hts (.code objectInit ⟨#[0xb1]⟩ 1 none) (by decide +kernel)) rfl (by rw [hml]; exact hl.1) rfl dX0_init_1 (Nat.le_of_ble_eq_true rfl) (Nat.le_of_ble_eq_true rfl) ?_
  refine W.eq (g2 := F0 m 4 ls []) rfl ?_
  refine lv_aload_n hx hb dX0_init_4 rfl (lv_at hl 0 rfl) ?_
  refine lv_bipush (v := 17) hx hb dX0_init_5 (by decide) ?_
  refine lv_iconst (v := 5) hx hb dX0_init_7 (by decide) ?_
  refine tn_mna (N' := 17) (K' := 5) hx hb hown (hts (.classLink RX0 9 "[[I") (by decide +kernel)) hC.1 (hts (.arrayClass .int) (by decide +kernel)) hK hP hD hS hA (by decide) (by decide) (by decide) (by decide) (Nat.le_of_ble_eq_true rfl) (Nat.le_of_ble_eq_true rfl) (Nat.le_of_ble_eq_true rfl) (Nat.le_of_ble_eq_true rfl) (Nat.le_of_ble_eq_true rfl) dX0_init_8 (fun q8 r8 H hP hD hS => ?_)
  refine va_putF (D := D) (ci := 0) (v := .ref q8) (ty := .array (.array .int)) (C := RX0) (T := TX0) (N := 6) hx hb hts hin0 tyX0 tyX0_ok nmX0 hown hK hP hD hS 0 rfl rfl 0 (by decide) (hts (.fieldLink RX0 11 "Tonguetell$Cutter" "costs" "[[I") (by decide +kernel)) (fun _ h9 => h9) rfl hin rfl (by decide +kernel) rfl rfl (Nat.le_of_ble_eq_true rfl) dX0_init_12 (fun H locs hP hD hS => ?_)
  have hP : va_P D vwCl (([(h0, .inr (0, [.ref q8, .null, .null, .int 0, .int 0, .int 0]))] ++ [(q8, .inl (cy 2, 17, .inr (.inr (.inr (.inr (fun i => if i < 17 then some (r8 i) else none))))))]) ++ (List.range 17).map (fun i => (r8 i, .inl (cy 0, 5, .inl (fun _ => 0))))) H := hP
  have hD : va_D A (([(h0, .inr (0, [.ref q8, .null, .null, .int 0, .int 0, .int 0]))] ++ [(q8, .inl (cy 2, 17, .inr (.inr (.inr (.inr (fun i => if i < 17 then some (r8 i) else none))))))]) ++ (List.range 17).map (fun i => (r8 i, .inl (cy 0, 5, .inl (fun _ => 0))))) := hD
  refine lv_aload_n hx hb dX0_init_15 rfl (lv_at hl 0 rfl) ?_
  refine lv_bipush (v := 17) hx hb dX0_init_16 (by decide) ?_
  refine tn_newa (N' := 17) hx hb (hts (.arrayClass .int) (by decide +kernel)) hK hP hD hS hA (by decide) (by decide) (Nat.le_of_ble_eq_true rfl) (Nat.le_of_ble_eq_true rfl) (Nat.le_of_ble_eq_true rfl) dX0_init_18 (fun q18 H hP hD hS => ?_)
  refine va_putF (D := D) (ci := 0) (v := .ref q18) (ty := .array .int) (C := RX0) (T := TX0) (N := 6) hx hb hts hin0 tyX0 tyX0_ok nmX0 hown hK hP hD hS 0 rfl rfl 1 (by decide) (hts (.fieldLink RX0 16 "Tonguetell$Cutter" "told" "[I") (by decide +kernel)) (fun _ h9 => h9) rfl hin rfl (by decide +kernel) rfl rfl (Nat.le_of_ble_eq_true rfl) dX0_init_20 (fun H locs hP hD hS => ?_)
  have hP : va_P D vwCl ((([(h0, .inr (0, [.ref q8, .ref q18, .null, .int 0, .int 0, .int 0]))] ++ [(q8, .inl (cy 2, 17, .inr (.inr (.inr (.inr (fun i => if i < 17 then some (r8 i) else none))))))]) ++ (List.range 17).map (fun i => (r8 i, .inl (cy 0, 5, .inl (fun _ => 0))))) ++ [(q18, .inl (cy 0, 17, .inl (fun _ => 0)))]) H := hP
  have hD : va_D A ((([(h0, .inr (0, [.ref q8, .ref q18, .null, .int 0, .int 0, .int 0]))] ++ [(q8, .inl (cy 2, 17, .inr (.inr (.inr (.inr (fun i => if i < 17 then some (r8 i) else none))))))]) ++ (List.range 17).map (fun i => (r8 i, .inl (cy 0, 5, .inl (fun _ => 0))))) ++ [(q18, .inl (cy 0, 17, .inl (fun _ => 0)))]) := hD
  refine lv_aload_n hx hb dX0_init_23 rfl (lv_at hl 0 rfl) ?_
  refine lv_bipush (v := 17) hx hb dX0_init_24 (by decide) ?_
  refine lv_iconst (v := 5) hx hb dX0_init_26 (by decide) ?_
  refine tn_mna (N' := 17) (K' := 5) hx hb hown (hts (.classLink RX0 9 "[[I") (by decide +kernel)) hC.1 (hts (.arrayClass .int) (by decide +kernel)) hK hP hD hS hA (by decide) (by decide) (by decide) (by decide) (Nat.le_of_ble_eq_true rfl) (Nat.le_of_ble_eq_true rfl) (Nat.le_of_ble_eq_true rfl) (Nat.le_of_ble_eq_true rfl) (Nat.le_of_ble_eq_true rfl) dX0_init_27 (fun q27 r27 H hP hD hS => ?_)
  refine va_putF (D := D) (ci := 0) (v := .ref q27) (ty := .array (.array .int)) (C := RX0) (T := TX0) (N := 6) hx hb hts hin0 tyX0 tyX0_ok nmX0 hown hK hP hD hS 0 rfl rfl 2 (by decide) (hts (.fieldLink RX0 20 "Tonguetell$Cutter" "rest" "[[I") (by decide +kernel)) (fun _ h9 => h9) rfl hin rfl (by decide +kernel) rfl rfl (Nat.le_of_ble_eq_true rfl) dX0_init_31 (fun H locs hP hD hS => ?_)
  have hP : va_P D vwCl ((((([(h0, .inr (0, [.ref q8, .ref q18, .ref q27, .int 0, .int 0, .int 0]))] ++ [(q8, .inl (cy 2, 17, .inr (.inr (.inr (.inr (fun i => if i < 17 then some (r8 i) else none))))))]) ++ (List.range 17).map (fun i => (r8 i, .inl (cy 0, 5, .inl (fun _ => 0))))) ++ [(q18, .inl (cy 0, 17, .inl (fun _ => 0)))]) ++ [(q27, .inl (cy 2, 17, .inr (.inr (.inr (.inr (fun i => if i < 17 then some (r27 i) else none))))))]) ++ (List.range 17).map (fun i => (r27 i, .inl (cy 0, 5, .inl (fun _ => 0))))) H := hP
  have hD : va_D A ((((([(h0, .inr (0, [.ref q8, .ref q18, .ref q27, .int 0, .int 0, .int 0]))] ++ [(q8, .inl (cy 2, 17, .inr (.inr (.inr (.inr (fun i => if i < 17 then some (r8 i) else none))))))]) ++ (List.range 17).map (fun i => (r8 i, .inl (cy 0, 5, .inl (fun _ => 0))))) ++ [(q18, .inl (cy 0, 17, .inl (fun _ => 0)))]) ++ [(q27, .inl (cy 2, 17, .inr (.inr (.inr (.inr (fun i => if i < 17 then some (r27 i) else none))))))]) ++ (List.range 17).map (fun i => (r27 i, .inl (cy 0, 5, .inl (fun _ => 0))))) := hD
  refine lv_aload_n hx hb dX0_init_34 rfl (lv_at hl 0 rfl) ?_
  refine lv_iconst (v := 0) hx hb dX0_init_35 (by decide) ?_
  refine va_put (D := D) (ci := 0) (v := .int 0) (ty := .int) (C := RX0) (T := TX0) (N := 6) hx hb hts hin0 tyX0 tyX0_ok nmX0 hown hK hP hD hS 0 rfl rfl 3 (by decide) (hts (.fieldLink RX0 23 "Tonguetell$Cutter" "runCount" "I") (by decide +kernel)) (fun _ h9 => h9) rfl (by decide +kernel) rfl rfl (Nat.le_of_ble_eq_true rfl) dX0_init_36 (fun H locs hP hD hS => ?_)
  have hP : va_P D vwCl ((((([(h0, .inr (0, [.ref q8, .ref q18, .ref q27, .int 0, .int 0, .int 0]))] ++ [(q8, .inl (cy 2, 17, .inr (.inr (.inr (.inr (fun i => if i < 17 then some (r8 i) else none))))))]) ++ (List.range 17).map (fun i => (r8 i, .inl (cy 0, 5, .inl (fun _ => 0))))) ++ [(q18, .inl (cy 0, 17, .inl (fun _ => 0)))]) ++ [(q27, .inl (cy 2, 17, .inr (.inr (.inr (.inr (fun i => if i < 17 then some (r27 i) else none))))))]) ++ (List.range 17).map (fun i => (r27 i, .inl (cy 0, 5, .inl (fun _ => 0))))) H := hP
  have hD : va_D A ((((([(h0, .inr (0, [.ref q8, .ref q18, .ref q27, .int 0, .int 0, .int 0]))] ++ [(q8, .inl (cy 2, 17, .inr (.inr (.inr (.inr (fun i => if i < 17 then some (r8 i) else none))))))]) ++ (List.range 17).map (fun i => (r8 i, .inl (cy 0, 5, .inl (fun _ => 0))))) ++ [(q18, .inl (cy 0, 17, .inl (fun _ => 0)))]) ++ [(q27, .inl (cy 2, 17, .inr (.inr (.inr (.inr (fun i => if i < 17 then some (r27 i) else none))))))]) ++ (List.range 17).map (fun i => (r27 i, .inl (cy 0, 5, .inl (fun _ => 0))))) := hD
  refine lv_aload_n hx hb dX0_init_39 rfl (lv_at hl 0 rfl) ?_
  refine lv_iconst (v := 0) hx hb dX0_init_40 (by decide) ?_
  refine va_put (D := D) (ci := 0) (v := .int 0) (ty := .int) (C := RX0) (T := TX0) (N := 6) hx hb hts hin0 tyX0 tyX0_ok nmX0 hown hK hP hD hS 0 rfl rfl 4 (by decide) (hts (.fieldLink RX0 27 "Tonguetell$Cutter" "choices" "I") (by decide +kernel)) (fun _ h9 => h9) rfl (by decide +kernel) rfl rfl (Nat.le_of_ble_eq_true rfl) dX0_init_41 (fun H locs hP hD hS => ?_)
  have hP : va_P D vwCl ((((([(h0, .inr (0, [.ref q8, .ref q18, .ref q27, .int 0, .int 0, .int 0]))] ++ [(q8, .inl (cy 2, 17, .inr (.inr (.inr (.inr (fun i => if i < 17 then some (r8 i) else none))))))]) ++ (List.range 17).map (fun i => (r8 i, .inl (cy 0, 5, .inl (fun _ => 0))))) ++ [(q18, .inl (cy 0, 17, .inl (fun _ => 0)))]) ++ [(q27, .inl (cy 2, 17, .inr (.inr (.inr (.inr (fun i => if i < 17 then some (r27 i) else none))))))]) ++ (List.range 17).map (fun i => (r27 i, .inl (cy 0, 5, .inl (fun _ => 0))))) H := hP
  have hD : va_D A ((((([(h0, .inr (0, [.ref q8, .ref q18, .ref q27, .int 0, .int 0, .int 0]))] ++ [(q8, .inl (cy 2, 17, .inr (.inr (.inr (.inr (fun i => if i < 17 then some (r8 i) else none))))))]) ++ (List.range 17).map (fun i => (r8 i, .inl (cy 0, 5, .inl (fun _ => 0))))) ++ [(q18, .inl (cy 0, 17, .inl (fun _ => 0)))]) ++ [(q27, .inl (cy 2, 17, .inr (.inr (.inr (.inr (fun i => if i < 17 then some (r27 i) else none))))))]) ++ (List.range 17).map (fun i => (r27 i, .inl (cy 0, 5, .inl (fun _ => 0))))) := hD
  refine lv_aload_n hx hb dX0_init_44 rfl (lv_at hl 0 rfl) ?_
  refine lv_iconst (v := 0) hx hb dX0_init_45 (by decide) ?_
  refine va_put (D := D) (ci := 0) (v := .int 0) (ty := .int) (C := RX0) (T := TX0) (N := 6) hx hb hts hin0 tyX0 tyX0_ok nmX0 hown hK hP hD hS 0 rfl rfl 5 (by decide) (hts (.fieldLink RX0 30 "Tonguetell$Cutter" "changePrice" "I") (by decide +kernel)) (fun _ h9 => h9) rfl (by decide +kernel) rfl rfl (Nat.le_of_ble_eq_true rfl) dX0_init_46 (fun H locs hP hD hS => ?_)
  have hP : va_P D vwCl ((((([(h0, .inr (0, [.ref q8, .ref q18, .ref q27, .int 0, .int 0, .int 0]))] ++ [(q8, .inl (cy 2, 17, .inr (.inr (.inr (.inr (fun i => if i < 17 then some (r8 i) else none))))))]) ++ (List.range 17).map (fun i => (r8 i, .inl (cy 0, 5, .inl (fun _ => 0))))) ++ [(q18, .inl (cy 0, 17, .inl (fun _ => 0)))]) ++ [(q27, .inl (cy 2, 17, .inr (.inr (.inr (.inr (fun i => if i < 17 then some (r27 i) else none))))))]) ++ (List.range 17).map (fun i => (r27 i, .inl (cy 0, 5, .inl (fun _ => 0))))) H := hP
  have hD : va_D A ((((([(h0, .inr (0, [.ref q8, .ref q18, .ref q27, .int 0, .int 0, .int 0]))] ++ [(q8, .inl (cy 2, 17, .inr (.inr (.inr (.inr (fun i => if i < 17 then some (r8 i) else none))))))]) ++ (List.range 17).map (fun i => (r8 i, .inl (cy 0, 5, .inl (fun _ => 0))))) ++ [(q18, .inl (cy 0, 17, .inl (fun _ => 0)))]) ++ [(q27, .inl (cy 2, 17, .inr (.inr (.inr (.inr (fun i => if i < 17 then some (r27 i) else none))))))]) ++ (List.range 17).map (fun i => (r27 i, .inl (cy 0, 5, .inl (fun _ => 0))))) := hD
  refine W.widen (k := 37) (n := 221) (Nat.le_of_ble_eq_true rfl) (Nat.le_of_ble_eq_true rfl) ?_
  exact W.vret hx hb hr (fun t ht hW => ⟨⟨_, rfl, ⟨q8, q18, q27, r8, r27, rfl⟩, by rw [ht]; exact hP, va_K.moved hW.alike hK, hD⟩, hS.F ht⟩) hS.2.2 dX0_init_49
set_option maxHeartbeats 4000000 in
set_option maxRecDepth 100000 in
theorem k_X1 (l : Launch) (D : va_G) (cy : Nat → ClassId) (h0 : Nat) : MetC l yX1_init wsX1_init 1 13 34 630 D cy [.ref h0] [(h0, .inr (1, [.null, .null, .null, .null, .int 0]))] (fun u => ∃ (q1 q2 q3 q4 : Nat) (r : Nat → Nat), u = ((((([(h0, .inr (1, [.ref q1, .ref q2, .ref q3, .ref q4, .int 0]))] ++ [(q1, .inl (cy 0, 30, .inl (fun k => if k < 30 then -1 else 0)))]) ++ [(q2, .inl (cy 0, 30, .inl (fun _ => 0)))]) ++ [(q3, .inl (cy 0, 30, .inl (fun _ => 0)))]) ++ [(q4, .inl (cy 2, 30, .inr (.inr (.inr (.inr (fun i => if i < 30 then some (r i) else none))))))]) ++ (List.range 30).map (fun i => (r i, .inl (cy 0, 17, .inl (fun _ => 0)))))) := by
  intro sz
  refine Met.ofW (cc := cX1_init) (maxL := 2) (ret := none) (by decide) rfl ?_
  intro p e s m args below meth c s₁ B hml hv
  obtain ⟨rfl, hsz, hP, hK, hD0, hC⟩ := hv
  have hx := B.exec
  have hb := B.bytes
  have hr := B.returns
  have hts := atoms_spec (ws := wsX1_init) B.pre
  have hown : s.vm.findClass RX1 = some m.cls := findClass_of_methodNamed B.named
  have hlocks := B.notSynchronized
  have hin : meth.name = "<init>" := (name_of_methodNamed B.named B.method).1
  subst hsz
  have hD := hD0.self (sz := s.heap.size)
  generalize hAe : va_A [(h0, .inr (1, [.null, .null, .null, .null, .int 0]))] s.heap.size = A at hD ⊢
  have hA : ∀ q : Nat, s.heap.size ≤ q → A q := fun q h => by rw [← hAe]; exact Or.inr h
  have hS : va_S A s.heap s.heap [] := va_S.rf
  have hl := lv_entry ([.ref h0]) (n := 2) (Nat.le_of_ble_eq_true rfl)
  rw [lg_entry_eq]
  generalize (lg_sl ([.ref h0]) ++ List.replicate (2 - (lg_sl ([.ref h0])).length) Slot.unset).toArray = ls at hl ⊢
  have hl : lv_has ls 2 [(0, .ref h0)] := hl
  have hin0 : ∀ w ∈ u_ws RX1 TX1 5, w ∈ wsX1_init := by decide +kernel
  refine lv_aload_n hx hb dX1_init_0 rfl (lv_at hl 0 rfl) ?_
  refine W.objInit hx hb hown (hts (.methodLink RX1 3 objectInit) (by decide +kernel)) (hts (.instanceMethod objectInit) (by decide +kernel)) (hts (.code objectInit ⟨#[0xb1]⟩ 1 none) (by decide +kernel)) rfl (by rw [hml]; exact hl.1) rfl dX1_init_1 (Nat.le_of_ble_eq_true rfl) (Nat.le_of_ble_eq_true rfl) ?_
  refine W.eq (g2 := F0 m 4 ls []) rfl ?_
  refine lv_aload_n hx hb dX1_init_4 rfl (lv_at hl 0 rfl) ?_
  refine lv_bipush (v := 30) hx hb dX1_init_5 (by decide) ?_
  refine tn_newa (N' := 30) hx hb (hts (.arrayClass .int) (by decide +kernel)) hK hP hD hS hA (by decide) (by decide) (Nat.le_of_ble_eq_true rfl) (Nat.le_of_ble_eq_true rfl) (Nat.le_of_ble_eq_true rfl) dX1_init_7 (fun q7 H hP hD hS => ?_)
  refine va_putF (D := D) (ci := 1) (v := .ref q7) (ty := .array .int) (C := RX1) (T := TX1) (N := 5) hx hb hts hin0 tyX1 tyX1_ok nmX1 hown hK hP hD hS 0 rfl rfl 0 (by decide) (hts (.fieldLink RX1 9 "Tonguetell$Shelf" "numberIn" "[I") (by decide +kernel)) (fun _ h9 => h9) rfl hin rfl (by decide +kernel) rfl rfl (Nat.le_of_ble_eq_true rfl) dX1_init_9 (fun H locs hP hD hS => ?_)
  have hP : va_P D vwCl ([(h0, .inr (1, [.ref q7, .null, .null, .null, .int 0]))] ++ [(q7, .inl (cy 0, 30, .inl (fun _ => 0)))]) H := hP
  have hD : va_D A ([(h0, .inr (1, [.ref q7, .null, .null, .null, .int 0]))] ++ [(q7, .inl (cy 0, 30, .inl (fun _ => 0)))]) := hD
  refine lv_aload_n hx hb dX1_init_12 rfl (lv_at hl 0 rfl) ?_
  refine lv_bipush (v := 30) hx hb dX1_init_13 (by decide) ?_
  refine tn_newa (N' := 30) hx hb (hts (.arrayClass .int) (by decide +kernel)) hK hP hD hS hA (by decide) (by decide) (Nat.le_of_ble_eq_true rfl) (Nat.le_of_ble_eq_true rfl) (Nat.le_of_ble_eq_true rfl) dX1_init_15 (fun q15 H hP hD hS => ?_)
  refine va_putF (D := D) (ci := 1) (v := .ref q15) (ty := .array .int) (C := RX1) (T := TX1) (N := 5) hx hb hts hin0 tyX1 tyX1_ok nmX1 hown hK hP hD hS 0 rfl rfl 1 (by decide) (hts (.fieldLink RX1 15 "Tonguetell$Shelf" "tongueIn" "[I") (by decide +kernel)) (fun _ h9 => h9) rfl hin rfl (by decide +kernel) rfl rfl (Nat.le_of_ble_eq_true rfl) dX1_init_17 (fun H locs hP hD hS => ?_)
  have hP : va_P D vwCl (([(h0, .inr (1, [.ref q7, .ref q15, .null, .null, .int 0]))] ++ [(q7, .inl (cy 0, 30, .inl (fun _ => 0)))]) ++ [(q15, .inl (cy 0, 30, .inl (fun _ => 0)))]) H := hP
  have hD : va_D A (([(h0, .inr (1, [.ref q7, .ref q15, .null, .null, .int 0]))] ++ [(q7, .inl (cy 0, 30, .inl (fun _ => 0)))]) ++ [(q15, .inl (cy 0, 30, .inl (fun _ => 0)))]) := hD
  refine lv_aload_n hx hb dX1_init_20 rfl (lv_at hl 0 rfl) ?_
  refine lv_bipush (v := 30) hx hb dX1_init_21 (by decide) ?_
  refine tn_newa (N' := 30) hx hb (hts (.arrayClass .int) (by decide +kernel)) hK hP hD hS hA (by decide) (by decide) (Nat.le_of_ble_eq_true rfl) (Nat.le_of_ble_eq_true rfl) (Nat.le_of_ble_eq_true rfl) dX1_init_23 (fun q23 H hP hD hS => ?_)
  refine va_putF (D := D) (ci := 1) (v := .ref q23) (ty := .array .int) (C := RX1) (T := TX1) (N := 5) hx hb hts hin0 tyX1 tyX1_ok nmX1 hown hK hP hD hS 0 rfl rfl 2 (by decide) (hts (.fieldLink RX1 18 "Tonguetell$Shelf" "lengthIn" "[I") (by decide +kernel)) (fun _ h9 => h9) rfl hin rfl (by decide +kernel) rfl rfl (Nat.le_of_ble_eq_true rfl) dX1_init_25 (fun H locs hP hD hS => ?_)
  have hP : va_P D vwCl ((([(h0, .inr (1, [.ref q7, .ref q15, .ref q23, .null, .int 0]))] ++ [(q7, .inl (cy 0, 30, .inl (fun _ => 0)))]) ++ [(q15, .inl (cy 0, 30, .inl (fun _ => 0)))]) ++ [(q23, .inl (cy 0, 30, .inl (fun _ => 0)))]) H := hP
  have hD : va_D A ((([(h0, .inr (1, [.ref q7, .ref q15, .ref q23, .null, .int 0]))] ++ [(q7, .inl (cy 0, 30, .inl (fun _ => 0)))]) ++ [(q15, .inl (cy 0, 30, .inl (fun _ => 0)))]) ++ [(q23, .inl (cy 0, 30, .inl (fun _ => 0)))]) := hD
  refine lv_aload_n hx hb dX1_init_28 rfl (lv_at hl 0 rfl) ?_
  refine lv_bipush (v := 30) hx hb dX1_init_29 (by decide) ?_
  refine lv_bipush (v := 17) hx hb dX1_init_31 (by decide) ?_
  refine tn_mna (N' := 30) (K' := 17) hx hb hown (hts (.classLink RX1 21 "[[I") (by decide +kernel)) hC.1 (hts (.arrayClass .int) (by decide +kernel)) hK hP hD hS hA (by decide) (by decide) (by decide) (by decide) (Nat.le_of_ble_eq_true rfl) (Nat.le_of_ble_eq_true rfl) (Nat.le_of_ble_eq_true rfl) (Nat.le_of_ble_eq_true rfl) (Nat.le_of_ble_eq_true rfl) dX1_init_33 (fun q33 r33 H hP hD hS => ?_)
  refine va_putF (D := D) (ci := 1) (v := .ref q33) (ty := .array (.array .int)) (C := RX1) (T := TX1) (N := 5) hx hb hts hin0 tyX1 tyX1_ok nmX1 hown hK hP hD hS 0 rfl rfl 3 (by decide) (hts (.fieldLink RX1 23 "Tonguetell$Shelf" "runsIn" "[[I") (by decide +kernel)) (fun _ h9 => h9) rfl hin rfl (by decide +kernel) rfl rfl (Nat.le_of_ble_eq_true rfl) dX1_init_37 (fun H locs hP hD hS => ?_)
  have hP : va_P D vwCl ((((([(h0, .inr (1, [.ref q7, .ref q15, .ref q23, .ref q33, .int 0]))] ++ [(q7, .inl (cy 0, 30, .inl (fun _ => 0)))]) ++ [(q15, .inl (cy 0, 30, .inl (fun _ => 0)))]) ++ [(q23, .inl (cy 0, 30, .inl (fun _ => 0)))]) ++ [(q33, .inl (cy 2, 30, .inr (.inr (.inr (.inr (fun i => if i < 30 then some (r33 i) else none))))))]) ++ (List.range 30).map (fun i => (r33 i, .inl (cy 0, 17, .inl (fun _ => 0))))) H := hP
  have hD : va_D A ((((([(h0, .inr (1, [.ref q7, .ref q15, .ref q23, .ref q33, .int 0]))] ++ [(q7, .inl (cy 0, 30, .inl (fun _ => 0)))]) ++ [(q15, .inl (cy 0, 30, .inl (fun _ => 0)))]) ++ [(q23, .inl (cy 0, 30, .inl (fun _ => 0)))]) ++ [(q33, .inl (cy 2, 30, .inr (.inr (.inr (.inr (fun i => if i < 30 then some (r33 i) else none))))))]) ++ (List.range 30).map (fun i => (r33 i, .inl (cy 0, 17, .inl (fun _ => 0))))) := hD
  refine lv_aload_n hx hb dX1_init_40 rfl (lv_at hl 0 rfl) ?_
  refine lv_iconst (v := 0) hx hb dX1_init_41 (by decide) ?_
  refine va_put (D := D) (ci := 1) (v := .int 0) (ty := .int) (C := RX1) (T := TX1) (N := 5) hx hb hts hin0 tyX1 tyX1_ok nmX1 hown hK hP hD hS 0 rfl rfl 4 (by decide) (hts (.fieldLink RX1 26 "Tonguetell$Shelf" "nextNumber" "I") (by decide +kernel)) (fun _ h9 => h9) rfl (by decide +kernel) rfl rfl (Nat.le_of_ble_eq_true rfl) dX1_init_42 (fun H locs hP hD hS => ?_)
  have hP : va_P D vwCl ((((([(h0, .inr (1, [.ref q7, .ref q15, .ref q23, .ref q33, .int 0]))] ++ [(q7, .inl (cy 0, 30, .inl (fun _ => 0)))]) ++ [(q15, .inl (cy 0, 30, .inl (fun _ => 0)))]) ++ [(q23, .inl (cy 0, 30, .inl (fun _ => 0)))]) ++ [(q33, .inl (cy 2, 30, .inr (.inr (.inr (.inr (fun i => if i < 30 then some (r33 i) else none))))))]) ++ (List.range 30).map (fun i => (r33 i, .inl (cy 0, 17, .inl (fun _ => 0))))) H := hP
  have hD : va_D A ((((([(h0, .inr (1, [.ref q7, .ref q15, .ref q23, .ref q33, .int 0]))] ++ [(q7, .inl (cy 0, 30, .inl (fun _ => 0)))]) ++ [(q15, .inl (cy 0, 30, .inl (fun _ => 0)))]) ++ [(q23, .inl (cy 0, 30, .inl (fun _ => 0)))]) ++ [(q33, .inl (cy 2, 30, .inr (.inr (.inr (.inr (fun i => if i < 30 then some (r33 i) else none))))))]) ++ (List.range 30).map (fun i => (r33 i, .inl (cy 0, 17, .inl (fun _ => 0))))) := hD
  refine lv_iconst (v := 0) hx hb dX1_init_45 (by decide) ?_
  generalize hWl : (fun f : Nat → Int32 => (((((([(h0, .inr (1, [.ref q7, .ref q15, .ref q23, .ref q33, .int 0]))] ++ [(q7, .inl (cy 0, 30, .inl f))]) ++ [(q15, .inl (cy 0, 30, .inl (fun _ => 0)))]) ++ [(q23, .inl (cy 0, 30, .inl (fun _ => 0)))]) ++ [(q33, .inl (cy 2, 30, .inr (.inr (.inr (.inr (fun i => if i < 30 then some (r33 i) else none))))))]) ++ (List.range 30).map (fun i => (r33 i, .inl (cy 0, 17, .inl (fun _ => 0))))) : va_W)) = WL
  have hg : ∀ f : Nat → Int32, (WL f)[0]? = some (h0, .inr (1, [.ref q7, .ref q15, .ref q23, .ref q33, .int 0])) ∧ (WL f)[1]? = some (q7, .inl (cy 0, 30, .inl f)) ∧ ∀ g : Nat → Int32, (WL f).set 1 (q7, .inl (cy 0, 30, .inl g)) = WL g := fun f => by subst hWl; exact ⟨rfl, rfl, fun g => rfl⟩
  have loop : ∀ (n i : Nat), 30 - i < n → i ≤ 30 → ∀ (H : Heap) (locs : List Loc) (ls : Array Slot), va_P D vwCl (WL (fun k => if k < i then -1 else 0)) H → va_D A (WL (fun k => if k < i then -1 else 0)) → va_S A s.heap H locs → lv_has ls 2 [(1, .int (nI i)), (0, .ref h0)] → W p l e (headSpec wsX1_init ({ frames := 1, cells := 34, slots := 630, locals := 13 } : Room)).room s m #[.ref h0] below meth c H locs 34 630 (MQ below (va_Qv (fun u => ∃ (q1 q2 q3 q4 : Nat) (r : Nat → Nat), u = ((((([(h0, .inr (1, [.ref q1, .ref q2, .ref q3, .ref q4, .int 0]))] ++ [(q1, .inl (cy 0, 30, .inl (fun k => if k < 30 then -1 else 0)))]) ++ [(q2, .inl (cy 0, 30, .inl (fun _ => 0)))]) ++ [(q3, .inl (cy 0, 30, .inl (fun _ => 0)))]) ++ [(q4, .inl (cy 2, 30, .inr (.inr (.inr (.inr (fun i => if i < 30 then some (r i) else none))))))]) ++ (List.range 30).map (fun i => (r i, .inl (cy 0, 17, .inl (fun _ => 0)))))) (BwC D cy A) A) #[.ref h0] s 34 630 A) (F0 m 47 ls []) := by
    intro n
    induction n with
    | zero => intro i h; omega
    | succ n ih =>
      intro i hn hi H locs ls hP hD hS hl
      refine lv_iload_n hx hb dX1_init_47 rfl (lv_at hl 0 rfl) ?_
      refine lv_bipush (v := 30) hx hb dX1_init_48 (by decide) ?_
      refine lv_icmp_ge (tgt := 66) hx hb dX1_init_50 (by decide) (fun hge => ?_) (fun hlt => ?_)
      · obtain rfl : i = 30 := Nat.le_antisymm hi (Nat.not_lt.mp fun h => nI_ge h (by omega) hge)
        exact W.vret hx hb hr (fun t ht hW => ⟨⟨_, rfl, ⟨q7, q15, q23, q33, r33, by subst hWl; rfl⟩, by rw [ht]; exact hP, va_K.moved hW.alike hK, hD⟩, hS.F ht⟩) hS.2.2 dX1_init_66
      · have hi30 : i < 30 := Nat.lt_of_not_le fun h => hlt (nI_le h (by omega))
        refine lv_aload_n hx hb dX1_init_53 rfl (lv_at hl 1 rfl) ?_
        refine va_get (own := RX1) (C := RX1) (T := TX1) (N := 5) (ci := 1) hx hb hts hin0 hown hK hP 0 (hg _).1 rfl 0 (by decide) (hts (.fieldLink RX1 9 "Tonguetell$Shelf" "numberIn" "[I") (by decide +kernel)) (fun _ h9 => h9) rfl dX1_init_54 ?_
        refine lv_iload_n hx hb dX1_init_57 rfl (lv_at hl 0 rfl) ?_
        refine lv_iconst (v := -1) hx hb dX1_init_58 (by decide) ?_
        refine va_iast hx hb hK hP hD hS 1 0 (hg _).2.1 rfl (vp_in_nI hi30 (by omega)) dX1_init_59 (fun H locs hP hD hS => ?_)
        have hf : upd (fun k => if k < i then (-1 : Int32) else 0) (nI i).toNatClampNeg (-1) = fun k => if k < i + 1 then -1 else 0 := by
          rw [nI_clamp (by omega)]
          funext k
          unfold upd
          by_cases h1 : k = i
          · rw [if_pos h1, if_pos (by omega)]
          · rw [if_neg h1]
            show (if k < i then (-1 : Int32) else 0) = _
            by_cases h2 : k < i
            · rw [if_pos h2, if_pos (by omega)]
            · rw [if_neg h2, if_neg (by omega)]
        rw [(hg _).2.2, hf] at hP hD
        refine lv_iinc (v := nI (i + 1)) hx hb dX1_init_60 hl (k := 0) rfl (nI_succ i).symm (by decide) rfl (fun ls hl => ?_)
        refine lv_goto (tgt := 47) hx hb dX1_init_63 (by decide) ?_
        exact ih (i + 1) (by omega) (by omega) H locs ls hP hD hS hl
  refine lv_istore_n hx hb dX1_init_46 rfl hl (by decide) rfl (fun ls hl => ?_)
  refine W.widen (k := 34) (n := 630) (Nat.le_of_ble_eq_true rfl) (Nat.le_of_ble_eq_true rfl) ?_
  exact loop 31 0 (by omega) (by omega) H _ ls (by subst hWl; exact hP) (by subst hWl; exact hD) hS hl
