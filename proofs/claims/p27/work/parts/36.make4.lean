/-! ===== the constructor of the whole ===== -/
theorem w4_1 : Cond.methodLink RX4 1 objectInit ∈ wsX4_init := List.mem_of_getElem? (i := 1) rfl
theorem w4_2 : Cond.instanceMethod objectInit ∈ wsX4_init := List.mem_of_getElem? (i := 2) rfl
theorem w4_3 : Cond.code objectInit ⟨#[0xb1]⟩ 1 none ∈ wsX4_init := List.mem_of_getElem? (i := 3) rfl
theorem w4_4 : Cond.classLink RX4 7 RX2 ∈ wsX4_init := List.mem_of_getElem? (i := 4) rfl
theorem w4_5 : Cond.instantiable RX2 2 ∈ wsX4_init := List.mem_of_getElem? (i := 5) rfl
theorem w4_6 : Cond.initialized RX2 ∈ wsX4_init := List.mem_of_getElem? (i := 6) rfl
theorem w4_7 : Cond.fieldLink RX4 10 "Tonguetell" "spelled" "LTonguetell$Spelling;" ∈ wsX4_init := List.mem_of_getElem? (i := 7) rfl
theorem w4_8 : Cond.classLink RX4 16 RX3 ∈ wsX4_init := List.mem_of_getElem? (i := 8) rfl
theorem w4_9 : Cond.instantiable RX3 2 ∈ wsX4_init := List.mem_of_getElem? (i := 9) rfl
theorem w4_10 : Cond.initialized RX3 ∈ wsX4_init := List.mem_of_getElem? (i := 10) rfl
theorem w4_11 : Cond.fieldLink RX4 19 "Tonguetell" "spelledTally" "LTonguetell$Tally;" ∈ wsX4_init := List.mem_of_getElem? (i := 11) rfl
theorem w4_12 : Cond.fieldLink RX4 23 "Tonguetell" "tallies" "[LTonguetell$Tally;" ∈ wsX4_init := List.mem_of_getElem? (i := 12) rfl
theorem w4_13 : Cond.classLink RX4 27 RX1 ∈ wsX4_init := List.mem_of_getElem? (i := 13) rfl
theorem w4_14 : Cond.instantiable RX1 5 ∈ wsX4_init := List.mem_of_getElem? (i := 14) rfl
theorem w4_15 : Cond.initialized RX1 ∈ wsX4_init := List.mem_of_getElem? (i := 15) rfl
theorem w4_16 : Cond.fieldLink RX4 30 "Tonguetell" "shelf" "LTonguetell$Shelf;" ∈ wsX4_init := List.mem_of_getElem? (i := 16) rfl
theorem w4_17 : Cond.classLink RX4 34 RX0 ∈ wsX4_init := List.mem_of_getElem? (i := 17) rfl
theorem w4_18 : Cond.instantiable RX0 6 ∈ wsX4_init := List.mem_of_getElem? (i := 18) rfl
theorem w4_19 : Cond.initialized RX0 ∈ wsX4_init := List.mem_of_getElem? (i := 19) rfl
theorem w4_20 : Cond.fieldLink RX4 37 "Tonguetell" "cutter" "LTonguetell$Cutter;" ∈ wsX4_init := List.mem_of_getElem? (i := 20) rfl
theorem w4_21 : Cond.fieldLink RX4 41 "Tonguetell" "tongueCount" "I" ∈ wsX4_init := List.mem_of_getElem? (i := 21) rfl
theorem w4_22 : Cond.fieldLink RX4 45 "Tonguetell" "margin" "I" ∈ wsX4_init := List.mem_of_getElem? (i := 22) rfl
theorem w4_23 : Cond.fieldLink RX4 48 "Tonguetell" "price" "I" ∈ wsX4_init := List.mem_of_getElem? (i := 23) rfl
theorem w4_24 : Cond.instanceMethod yX2_init ∈ wsX4_init := List.mem_of_getElem? (i := 24) rfl
theorem w4_30 : Cond.instanceMethod yX3_init ∈ wsX4_init := List.mem_of_getElem? (i := 30) rfl
theorem w4_35 : Cond.methodLink RX4 29 yX1_init ∈ wsX4_init := List.mem_of_getElem? (i := 35) rfl
theorem w4_36 : Cond.instanceMethod yX1_init ∈ wsX4_init := List.mem_of_getElem? (i := 36) rfl
theorem w4_45 : Cond.instanceMethod yX0_init ∈ wsX4_init := List.mem_of_getElem? (i := 45) rfl
theorem in4_0 : ∀ w ∈ wsX00, w ∈ wsX4_init := fun _ h => List.mem_cons_of_mem _ (List.mem_append_right _ h)
theorem in4_1 : ∀ w ∈ wsX10, w ∈ wsX4_init := fun _ h => List.mem_cons_of_mem _ (List.mem_append_left _ (List.mem_append_right _ h))
theorem in4_3 : ∀ w ∈ wsX30, w ∈ wsX4_init := fun _ h => List.mem_cons_of_mem _ (List.mem_append_left _ (List.mem_append_left _ (List.mem_append_right _ h)))
theorem in4_4 : ∀ w ∈ wsX40, w ∈ wsX4_init := fun _ h => List.mem_cons_of_mem _ (List.mem_append_left _ (List.mem_append_left _ (List.mem_append_left _ (List.mem_append_right _ h))))
theorem in4_2 : ∀ w ∈ wsX20, w ∈ wsX4_init := fun _ h => List.mem_cons_of_mem _ (List.mem_append_left _ (List.mem_append_left _ (List.mem_append_left _ (List.mem_append_left _ (List.mem_append_right _ h)))))
abbrev ap (a b : va_W) : va_W := a ++ b
abbrev sg2 (cy : Nat → ClassId) (h u : Nat) : va_W := ([(h, .inr (2, [.ref u, .int 0]))] ++ [(u, .inl (cy 0, 16, .inl (fun _ => 0)))])
abbrev sg3 (cy : Nat → ClassId) (h u : Nat) : va_W := ([(h, .inr (3, [.ref u, .int 0]))] ++ [(u, .inl (cy 0, 36, .inl (fun _ => 0)))])
abbrev sg1 (cy : Nat → ClassId) (h a b c d : Nat) (r : Nat → Nat) : va_W := ((((([(h, .inr (1, [.ref a, .ref b, .ref c, .ref d, .int 0]))] ++ [(a, .inl (cy 0, 30, .inl (fun k => if k < 30 then -1 else 0)))]) ++ [(b, .inl (cy 0, 30, .inl (fun _ => 0)))]) ++ [(c, .inl (cy 0, 30, .inl (fun _ => 0)))]) ++ [(d, .inl (cy 2, 30, .inr (.inr (.inr (.inr (fun i => if i < 30 then some (r i) else none))))))]) ++ (List.range 30).map (fun i => (r i, .inl (cy 0, 17, .inl (fun _ => 0)))))
abbrev sg0 (cy : Nat → ClassId) (h a b c : Nat) (r t : Nat → Nat) : va_W := ((((([(h, .inr (0, [.ref a, .ref b, .ref c, .int 0, .int 0, .int 0]))] ++ [(a, .inl (cy 2, 17, .inr (.inr (.inr (.inr (fun i => if i < 17 then some (r i) else none))))))]) ++ (List.range 17).map (fun i => (r i, .inl (cy 0, 5, .inl (fun _ => 0))))) ++ [(b, .inl (cy 0, 17, .inl (fun _ => 0)))]) ++ [(c, .inl (cy 2, 17, .inr (.inr (.inr (.inr (fun i => if i < 17 then some (t i) else none))))))]) ++ (List.range 17).map (fun i => (t i, .inl (cy 0, 5, .inl (fun _ => 0)))))
abbrev sgH (h : Nat) (vs : List Value) : va_W := [(h, .inr (4, vs))]
abbrev sgA (cy : Nat → ClassId) (q : Nat) (f : Nat → Option Nat) : va_W := [(q, .inl (cy 1, 5, .inr (.inr (.inr (.inr f)))))]
abbrev sgF : Nat → Option Nat := fun _ => none
abbrev wX4 (cy : Nat → ClassId) (h0 q5 u5 q16 u16 q28 q35 s1 s2 s3 s4 q46 c1 c2 c3 q83a u83a q83b u83b q83c u83c q83d u83d q83e u83e : Nat) (sr cr1 cr3 : Nat → Nat) : va_W := (ap (ap (ap (ap (ap (ap (ap (ap (ap (ap (sgH h0 [.ref q5, .ref q16, .ref q28, .ref q35, .ref q46, .int 0, .int 3, .int 4]) (sg2 cy q5 u5)) (sg3 cy q16 u16)) (sgA cy q28 (va_up (va_up (va_up (va_up (va_up sgF ((0 : Int32)).toNatClampNeg (some q83a)) ((1 : Int32)).toNatClampNeg (some q83b)) ((2 : Int32)).toNatClampNeg (some q83c)) ((3 : Int32)).toNatClampNeg (some q83d)) ((4 : Int32)).toNatClampNeg (some q83e)))) (sg1 cy q35 s1 s2 s3 s4 sr)) (sg0 cy q46 c1 c2 c3 cr1 cr3)) (sg3 cy q83a u83a)) (sg3 cy q83b u83b)) (sg3 cy q83c u83c)) (sg3 cy q83d u83d)) (sg3 cy q83e u83e))
set_option maxHeartbeats 4000000 in
set_option maxRecDepth 100000 in
theorem k_X4 (l : Launch) (D : va_G) (cy : Nat → ClassId) (h0 : Nat) : MetC l yX4_init wsX4_init 2 40 88 1113 D cy [.ref h0] [(h0, .inr (4, [.null, .null, .null, .null, .null, .int 0, .int 0, .int 0]))] (fun u => ∃ (q5 u5 q16 u16 q28 q35 s1 s2 s3 s4 q46 c1 c2 c3 q83a u83a q83b u83b q83c u83c q83d u83d q83e u83e : Nat) (sr cr1 cr3 : Nat → Nat), u = wX4 cy h0 q5 u5 q16 u16 q28 q35 s1 s2 s3 s4 q46 c1 c2 c3 q83a u83a q83b u83b q83c u83c q83d u83d q83e u83e sr cr1 cr3) := by
  intro sz
  refine Met.ofW (cc := cX4_init) (maxL := 2) (ret := none) (by decide) rfl ?_
  intro p e s m args below meth c s₁ B hml hv
  obtain ⟨rfl, hsz, hP, hK, hD0, hC⟩ := hv
  have hx := B.exec
  have hb := B.bytes
  have hr := B.returns
  have hts := atoms_spec (ws := wsX4_init) B.pre
  have hown : s.vm.findClass RX4 = some m.cls := findClass_of_methodNamed B.named
  have hlocks := B.notSynchronized
  have hin : meth.name = "<init>" := (name_of_methodNamed B.named B.method).1
  subst hsz
  have hD := hD0.self (sz := s.heap.size)
  generalize hAe : va_A [(h0, .inr (4, [.null, .null, .null, .null, .null, .int 0, .int 0, .int 0]))] s.heap.size = A at hD ⊢
  have hA : ∀ q : Nat, s.heap.size ≤ q → A q := fun q h => by rw [← hAe]; exact Or.inr h
  have hS : va_S A s.heap s.heap [] := va_S.rf
  have hl := lv_entry ([.ref h0]) (n := 2) (Nat.le_of_ble_eq_true rfl)
  rw [lg_entry_eq]
  generalize (lg_sl ([.ref h0]) ++ List.replicate (2 - (lg_sl ([.ref h0])).length) Slot.unset).toArray = ls at hl ⊢
  have hl : lv_has ls 2 [(0, .ref h0)] := hl
  have hin0 : ∀ w ∈ u_ws RX4 TX4 8, w ∈ wsX4_init := in4_4
  refine lv_aload_n hx hb dX4_init_0 rfl (lv_at hl 0 rfl) ?_
  refine W.objInit hx hb hown (hts _ w4_1) (hts _ w4_2) (hts _ w4_3) rfl (by rw [hml]; exact hl.1) rfl dX4_init_1 (Nat.le_of_ble_eq_true rfl) (Nat.le_of_ble_eq_true rfl) ?_
  refine W.eq (g2 := F0 m 4 ls []) rfl ?_
  refine lv_aload_n hx hb dX4_init_4 rfl (lv_at hl 0 rfl) ?_
  refine va_new (ci := 2) (fs := [.null, .int 0]) (C := RX2) (T := TX2) (N := 2) hx hb hts in4_2 tyX2 tyX2_ok hown (hts _ w4_4) (hts _ w4_5) (hts _ w4_6) hK hP hD hS hA rfl (by decide +kernel) (Nat.le_of_ble_eq_true rfl) (Nat.le_of_ble_eq_true rfl) dX4_init_5 (fun q5 H hP hD hS => ?_)
  refine lv_dup hx hb dX4_init_8 rfl ?_
  have hPc := tn_lastP hP
  have hDc := tn_lastD hD
  have hFc := tn_lastF hD hS hA
  refine va_callv (va_runIN (As := []) (rest := [.ref q5, .ref h0]) ⟨hx, hb, hml, hown, hts⟩ (k_X2 l D cy q5 H.size) ⟨va_cnB 0 hts gX4_init_X2_init_n9 rfl rfl rfl hC.2.2.1 (hts _ w4_6) (by decide +kernel) ⟨(Nat.le_of_ble_eq_true rfl), (Nat.le_of_ble_eq_true rfl)⟩, rfl, hts _ w4_24⟩ ⟨PrC.blind, fun U hU hW => ⟨rfl, by rw [hU], by rw [hU]; exact hPc, va_K.moved hW.alike hK, hDc.weaken (fun _ _ _ _ => trivial), hC.moved hW⟩⟩ rfl rfl hl.1 rfl (lv_room (Nat.le_of_ble_eq_true rfl)) dX4_init_9 ⟨(Nat.le_of_ble_eq_true rfl), (Nat.le_of_ble_eq_true rfl)⟩) hS (fun q _ h => hFc q h) hFc (fun u t H1 locs ht hvm hu hB hz1 hk1 hS => ?_)
  obtain ⟨hP1, hK1, hD1⟩ := hB
  rw [ht] at hP1
  obtain ⟨u5, rfl⟩ := hu
  obtain ⟨hP, hD⟩ := tn_join hP hD hk1 hFc hP1 hD1
  generalize H1 = H at hP hS ⊢
  have hP : va_P D vwCl (ap (sgH h0 [.null, .null, .null, .null, .null, .int 0, .int 0, .int 0]) (sg2 cy q5 u5)) H := hP
  have hD : va_D A (ap (sgH h0 [.null, .null, .null, .null, .null, .int 0, .int 0, .int 0]) (sg2 cy q5 u5)) := hD
  refine va_putF (D := D) (ci := 4) (v := .ref q5) (ty := .object "Tonguetell$Spelling") (C := RX4) (T := TX4) (N := 8) hx hb hts hin0 tyX4 tyX4_ok nmX4 hown hK hP hD hS 0 rfl rfl 0 (by decide) (hts _ w4_7) (fun _ h9 => h9) rfl hin rfl (by decide +kernel) rfl rfl (Nat.le_of_ble_eq_true rfl) dX4_init_12 (fun H locs hP hD hS => ?_)
  have hP : va_P D vwCl (ap (sgH h0 [.ref q5, .null, .null, .null, .null, .int 0, .int 0, .int 0]) (sg2 cy q5 u5)) H := hP
  have hD : va_D A (ap (sgH h0 [.ref q5, .null, .null, .null, .null, .int 0, .int 0, .int 0]) (sg2 cy q5 u5)) := hD
  refine lv_aload_n hx hb dX4_init_15 rfl (lv_at hl 0 rfl) ?_
  refine va_new (ci := 3) (fs := [.null, .int 0]) (C := RX3) (T := TX3) (N := 2) hx hb hts in4_3 tyX3 tyX3_ok hown (hts _ w4_8) (hts _ w4_9) (hts _ w4_10) hK hP hD hS hA rfl (by decide +kernel) (Nat.le_of_ble_eq_true rfl) (Nat.le_of_ble_eq_true rfl) dX4_init_16 (fun q16 H hP hD hS => ?_)
  refine lv_dup hx hb dX4_init_19 rfl ?_
  have hPc := tn_lastP hP
  have hDc := tn_lastD hD
  have hFc := tn_lastF hD hS hA
  refine va_callv (va_runIN (As := []) (rest := [.ref q16, .ref h0]) ⟨hx, hb, hml, hown, hts⟩ (k_X3 l D cy q16 H.size) ⟨va_cnB 0 hts gX4_init_X3_init_n18 rfl rfl rfl hC.2.2.2.1 (hts _ w4_10) (by decide +kernel) ⟨(Nat.le_of_ble_eq_true rfl), (Nat.le_of_ble_eq_true rfl)⟩, rfl, hts _ w4_30⟩ ⟨PrC.blind, fun U hU hW => ⟨rfl, by rw [hU], by rw [hU]; exact hPc, va_K.moved hW.alike hK, hDc.weaken (fun _ _ _ _ => trivial), hC.moved hW⟩⟩ rfl rfl hl.1 rfl (lv_room (Nat.le_of_ble_eq_true rfl)) dX4_init_20 ⟨(Nat.le_of_ble_eq_true rfl), (Nat.le_of_ble_eq_true rfl)⟩) hS (fun q _ h => hFc q h) hFc (fun u t H1 locs ht hvm hu hB hz1 hk1 hS => ?_)
  obtain ⟨hP1, hK1, hD1⟩ := hB
  rw [ht] at hP1
  obtain ⟨u16, rfl⟩ := hu
  obtain ⟨hP, hD⟩ := tn_join hP hD hk1 hFc hP1 hD1
  generalize H1 = H at hP hS ⊢
  have hP : va_P D vwCl (ap (ap (sgH h0 [.ref q5, .null, .null, .null, .null, .int 0, .int 0, .int 0]) (sg2 cy q5 u5)) (sg3 cy q16 u16)) H := hP
  have hD : va_D A (ap (ap (sgH h0 [.ref q5, .null, .null, .null, .null, .int 0, .int 0, .int 0]) (sg2 cy q5 u5)) (sg3 cy q16 u16)) := hD
  refine va_putF (D := D) (ci := 4) (v := .ref q16) (ty := .object "Tonguetell$Tally") (C := RX4) (T := TX4) (N := 8) hx hb hts hin0 tyX4 tyX4_ok nmX4 hown hK hP hD hS 0 rfl rfl 1 (by decide) (hts _ w4_11) (fun _ h9 => h9) rfl hin rfl (by decide +kernel) rfl rfl (Nat.le_of_ble_eq_true rfl) dX4_init_23 (fun H locs hP hD hS => ?_)
  have hP : va_P D vwCl (ap (ap (sgH h0 [.ref q5, .ref q16, .null, .null, .null, .int 0, .int 0, .int 0]) (sg2 cy q5 u5)) (sg3 cy q16 u16)) H := hP
  have hD : va_D A (ap (ap (sgH h0 [.ref q5, .ref q16, .null, .null, .null, .int 0, .int 0, .int 0]) (sg2 cy q5 u5)) (sg3 cy q16 u16)) := hD
  refine lv_aload_n hx hb dX4_init_26 rfl (lv_at hl 0 rfl) ?_
  refine lv_iconst (v := 5) hx hb dX4_init_27 (by decide) ?_
  refine tn_newq (N' := 5) hx hb hown (hts _ w4_8) hC.2.1 hK hP hD hS hA (by decide) (by decide) (Nat.le_of_ble_eq_true rfl) (Nat.le_of_ble_eq_true rfl) (Nat.le_of_ble_eq_true rfl) dX4_init_28 (fun q28 H hP hD hS => ?_)
  refine va_putF (D := D) (ci := 4) (v := .ref q28) (ty := .array (.object "Tonguetell$Tally")) (C := RX4) (T := TX4) (N := 8) hx hb hts hin0 tyX4 tyX4_ok nmX4 hown hK hP hD hS 0 rfl rfl 2 (by decide) (hts _ w4_12) (fun _ h9 => h9) rfl hin rfl (by decide +kernel) rfl rfl (Nat.le_of_ble_eq_true rfl) dX4_init_31 (fun H locs hP hD hS => ?_)
  have hP : va_P D vwCl (ap (ap (ap (sgH h0 [.ref q5, .ref q16, .ref q28, .null, .null, .int 0, .int 0, .int 0]) (sg2 cy q5 u5)) (sg3 cy q16 u16)) (sgA cy q28 sgF)) H := hP
  have hD : va_D A (ap (ap (ap (sgH h0 [.ref q5, .ref q16, .ref q28, .null, .null, .int 0, .int 0, .int 0]) (sg2 cy q5 u5)) (sg3 cy q16 u16)) (sgA cy q28 sgF)) := hD
  refine lv_aload_n hx hb dX4_init_34 rfl (lv_at hl 0 rfl) ?_
  refine va_new (ci := 1) (fs := [.null, .null, .null, .null, .int 0]) (C := RX1) (T := TX1) (N := 5) hx hb hts in4_1 tyX1 tyX1_ok hown (hts _ w4_13) (hts _ w4_14) (hts _ w4_15) hK hP hD hS hA rfl (by decide +kernel) (Nat.le_of_ble_eq_true rfl) (Nat.le_of_ble_eq_true rfl) dX4_init_35 (fun q35 H hP hD hS => ?_)
  refine lv_dup hx hb dX4_init_38 rfl ?_
  have hPc := tn_lastP hP
  have hDc := tn_lastD hD
  have hFc := tn_lastF hD hS hA
  refine va_callv (va_runI (As := []) (rest := [.ref q35, .ref h0]) ⟨hx, hb, hml, hown, hts⟩ (k_X1 l D cy q35 H.size) (cwI 0 hts gX4_init_X1_init rfl rfl rfl (hts _ w4_15) (hts _ w4_35) (hts _ w4_36) rfl (by decide +kernel) ⟨(Nat.le_of_ble_eq_true rfl), (Nat.le_of_ble_eq_true rfl)⟩) ⟨PrC.blind, fun U hU hW => ⟨rfl, by rw [hU], by rw [hU]; exact hPc, va_K.moved hW.alike hK, hDc.weaken (fun _ _ _ _ => trivial), hC.moved hW⟩⟩ rfl rfl hl.1 rfl (lv_room (Nat.le_of_ble_eq_true rfl)) dX4_init_39 ⟨(Nat.le_of_ble_eq_true rfl), (Nat.le_of_ble_eq_true rfl)⟩) hS (fun q _ h => hFc q h) hFc (fun u t H1 locs ht hvm hu hB hz1 hk1 hS => ?_)
  obtain ⟨hP1, hK1, hD1⟩ := hB
  rw [ht] at hP1
  obtain ⟨s1, s2, s3, s4, sr, rfl⟩ := hu
  obtain ⟨hP, hD⟩ := tn_join hP hD hk1 hFc hP1 hD1
  generalize H1 = H at hP hS ⊢
  have hP : va_P D vwCl (ap (ap (ap (ap (sgH h0 [.ref q5, .ref q16, .ref q28, .null, .null, .int 0, .int 0, .int 0]) (sg2 cy q5 u5)) (sg3 cy q16 u16)) (sgA cy q28 sgF)) (sg1 cy q35 s1 s2 s3 s4 sr)) H := hP
  have hD : va_D A (ap (ap (ap (ap (sgH h0 [.ref q5, .ref q16, .ref q28, .null, .null, .int 0, .int 0, .int 0]) (sg2 cy q5 u5)) (sg3 cy q16 u16)) (sgA cy q28 sgF)) (sg1 cy q35 s1 s2 s3 s4 sr)) := hD
  refine va_putF (D := D) (ci := 4) (v := .ref q35) (ty := .object "Tonguetell$Shelf") (C := RX4) (T := TX4) (N := 8) hx hb hts hin0 tyX4 tyX4_ok nmX4 hown hK hP hD hS 0 rfl rfl 3 (by decide) (hts _ w4_16) (fun _ h9 => h9) rfl hin rfl (by decide +kernel) rfl rfl (Nat.le_of_ble_eq_true rfl) dX4_init_42 (fun H locs hP hD hS => ?_)
  have hP : va_P D vwCl (ap (ap (ap (ap (sgH h0 [.ref q5, .ref q16, .ref q28, .ref q35, .null, .int 0, .int 0, .int 0]) (sg2 cy q5 u5)) (sg3 cy q16 u16)) (sgA cy q28 sgF)) (sg1 cy q35 s1 s2 s3 s4 sr)) H := hP
  have hD : va_D A (ap (ap (ap (ap (sgH h0 [.ref q5, .ref q16, .ref q28, .ref q35, .null, .int 0, .int 0, .int 0]) (sg2 cy q5 u5)) (sg3 cy q16 u16)) (sgA cy q28 sgF)) (sg1 cy q35 s1 s2 s3 s4 sr)) := hD
  refine lv_aload_n hx hb dX4_init_45 rfl (lv_at hl 0 rfl) ?_
  refine va_new (ci := 0) (fs := [.null, .null, .null, .int 0, .int 0, .int 0]) (C := RX0) (T := TX0) (N := 6) hx hb hts in4_0 tyX0 tyX0_ok hown (hts _ w4_17) (hts _ w4_18) (hts _ w4_19) hK hP hD hS hA rfl (by decide +kernel) (Nat.le_of_ble_eq_true rfl) (Nat.le_of_ble_eq_true rfl) dX4_init_46 (fun q46 H hP hD hS => ?_)
  refine lv_dup hx hb dX4_init_49 rfl ?_
  have hPc := tn_lastP hP
  have hDc := tn_lastD hD
  have hFc := tn_lastF hD hS hA
  refine va_callv (va_runIN (As := []) (rest := [.ref q46, .ref h0]) ⟨hx, hb, hml, hown, hts⟩ (k_X0 l D cy q46 H.size) ⟨va_cnB 0 hts gX4_init_X0_init_n36 rfl rfl rfl hC.2.2.2.2 (hts _ w4_19) (by decide +kernel) ⟨(Nat.le_of_ble_eq_true rfl), (Nat.le_of_ble_eq_true rfl)⟩, rfl, hts _ w4_45⟩ ⟨PrC.blind, fun U hU hW => ⟨rfl, by rw [hU], by rw [hU]; exact hPc, va_K.moved hW.alike hK, hDc.weaken (fun _ _ _ _ => trivial), hC.moved hW⟩⟩ rfl rfl hl.1 rfl (lv_room (Nat.le_of_ble_eq_true rfl)) dX4_init_50 ⟨(Nat.le_of_ble_eq_true rfl), (Nat.le_of_ble_eq_true rfl)⟩) hS (fun q _ h => hFc q h) hFc (fun u t H1 locs ht hvm hu hB hz1 hk1 hS => ?_)
  obtain ⟨hP1, hK1, hD1⟩ := hB
  rw [ht] at hP1
  obtain ⟨c1, c2, c3, cr1, cr3, rfl⟩ := hu
  obtain ⟨hP, hD⟩ := tn_join hP hD hk1 hFc hP1 hD1
  generalize H1 = H at hP hS ⊢
  have hP : va_P D vwCl (ap (ap (ap (ap (ap (sgH h0 [.ref q5, .ref q16, .ref q28, .ref q35, .null, .int 0, .int 0, .int 0]) (sg2 cy q5 u5)) (sg3 cy q16 u16)) (sgA cy q28 sgF)) (sg1 cy q35 s1 s2 s3 s4 sr)) (sg0 cy q46 c1 c2 c3 cr1 cr3)) H := hP
  have hD : va_D A (ap (ap (ap (ap (ap (sgH h0 [.ref q5, .ref q16, .ref q28, .ref q35, .null, .int 0, .int 0, .int 0]) (sg2 cy q5 u5)) (sg3 cy q16 u16)) (sgA cy q28 sgF)) (sg1 cy q35 s1 s2 s3 s4 sr)) (sg0 cy q46 c1 c2 c3 cr1 cr3)) := hD
  refine va_putF (D := D) (ci := 4) (v := .ref q46) (ty := .object "Tonguetell$Cutter") (C := RX4) (T := TX4) (N := 8) hx hb hts hin0 tyX4 tyX4_ok nmX4 hown hK hP hD hS 0 rfl rfl 4 (by decide) (hts _ w4_20) (fun _ h9 => h9) rfl hin rfl (by decide +kernel) rfl rfl (Nat.le_of_ble_eq_true rfl) dX4_init_53 (fun H locs hP hD hS => ?_)
  have hP : va_P D vwCl (ap (ap (ap (ap (ap (sgH h0 [.ref q5, .ref q16, .ref q28, .ref q35, .ref q46, .int 0, .int 0, .int 0]) (sg2 cy q5 u5)) (sg3 cy q16 u16)) (sgA cy q28 sgF)) (sg1 cy q35 s1 s2 s3 s4 sr)) (sg0 cy q46 c1 c2 c3 cr1 cr3)) H := hP
  have hD : va_D A (ap (ap (ap (ap (ap (sgH h0 [.ref q5, .ref q16, .ref q28, .ref q35, .ref q46, .int 0, .int 0, .int 0]) (sg2 cy q5 u5)) (sg3 cy q16 u16)) (sgA cy q28 sgF)) (sg1 cy q35 s1 s2 s3 s4 sr)) (sg0 cy q46 c1 c2 c3 cr1 cr3)) := hD
  refine lv_aload_n hx hb dX4_init_56 rfl (lv_at hl 0 rfl) ?_
  refine lv_iconst (v := 0) hx hb dX4_init_57 (by decide) ?_
  refine va_put (D := D) (ci := 4) (v := .int 0) (ty := .int) (C := RX4) (T := TX4) (N := 8) hx hb hts hin0 tyX4 tyX4_ok nmX4 hown hK hP hD hS 0 rfl rfl 5 (by decide) (hts _ w4_21) (fun _ h9 => h9) rfl (by decide +kernel) rfl rfl (Nat.le_of_ble_eq_true rfl) dX4_init_58 (fun H locs hP hD hS => ?_)
  have hP : va_P D vwCl (ap (ap (ap (ap (ap (sgH h0 [.ref q5, .ref q16, .ref q28, .ref q35, .ref q46, .int 0, .int 0, .int 0]) (sg2 cy q5 u5)) (sg3 cy q16 u16)) (sgA cy q28 sgF)) (sg1 cy q35 s1 s2 s3 s4 sr)) (sg0 cy q46 c1 c2 c3 cr1 cr3)) H := hP
  have hD : va_D A (ap (ap (ap (ap (ap (sgH h0 [.ref q5, .ref q16, .ref q28, .ref q35, .ref q46, .int 0, .int 0, .int 0]) (sg2 cy q5 u5)) (sg3 cy q16 u16)) (sgA cy q28 sgF)) (sg1 cy q35 s1 s2 s3 s4 sr)) (sg0 cy q46 c1 c2 c3 cr1 cr3)) := hD
  refine lv_aload_n hx hb dX4_init_61 rfl (lv_at hl 0 rfl) ?_
  refine lv_iconst (v := 3) hx hb dX4_init_62 (by decide) ?_
  refine va_put (D := D) (ci := 4) (v := .int 3) (ty := .int) (C := RX4) (T := TX4) (N := 8) hx hb hts hin0 tyX4 tyX4_ok nmX4 hown hK hP hD hS 0 rfl rfl 6 (by decide) (hts _ w4_22) (fun _ h9 => h9) rfl (by decide +kernel) rfl rfl (Nat.le_of_ble_eq_true rfl) dX4_init_63 (fun H locs hP hD hS => ?_)
  have hP : va_P D vwCl (ap (ap (ap (ap (ap (sgH h0 [.ref q5, .ref q16, .ref q28, .ref q35, .ref q46, .int 0, .int 3, .int 0]) (sg2 cy q5 u5)) (sg3 cy q16 u16)) (sgA cy q28 sgF)) (sg1 cy q35 s1 s2 s3 s4 sr)) (sg0 cy q46 c1 c2 c3 cr1 cr3)) H := hP
  have hD : va_D A (ap (ap (ap (ap (ap (sgH h0 [.ref q5, .ref q16, .ref q28, .ref q35, .ref q46, .int 0, .int 3, .int 0]) (sg2 cy q5 u5)) (sg3 cy q16 u16)) (sgA cy q28 sgF)) (sg1 cy q35 s1 s2 s3 s4 sr)) (sg0 cy q46 c1 c2 c3 cr1 cr3)) := hD
  refine lv_aload_n hx hb dX4_init_66 rfl (lv_at hl 0 rfl) ?_
  refine lv_iconst (v := 4) hx hb dX4_init_67 (by decide) ?_
  refine va_put (D := D) (ci := 4) (v := .int 4) (ty := .int) (C := RX4) (T := TX4) (N := 8) hx hb hts hin0 tyX4 tyX4_ok nmX4 hown hK hP hD hS 0 rfl rfl 7 (by decide) (hts _ w4_23) (fun _ h9 => h9) rfl (by decide +kernel) rfl rfl (Nat.le_of_ble_eq_true rfl) dX4_init_68 (fun H locs hP hD hS => ?_)
  have hP : va_P D vwCl (ap (ap (ap (ap (ap (sgH h0 [.ref q5, .ref q16, .ref q28, .ref q35, .ref q46, .int 0, .int 3, .int 4]) (sg2 cy q5 u5)) (sg3 cy q16 u16)) (sgA cy q28 sgF)) (sg1 cy q35 s1 s2 s3 s4 sr)) (sg0 cy q46 c1 c2 c3 cr1 cr3)) H := hP
  have hD : va_D A (ap (ap (ap (ap (ap (sgH h0 [.ref q5, .ref q16, .ref q28, .ref q35, .ref q46, .int 0, .int 3, .int 4]) (sg2 cy q5 u5)) (sg3 cy q16 u16)) (sgA cy q28 sgF)) (sg1 cy q35 s1 s2 s3 s4 sr)) (sg0 cy q46 c1 c2 c3 cr1 cr3)) := hD
  refine lv_iconst (v := 0) hx hb dX4_init_71 (by decide) ?_
  refine lv_istore_n hx hb dX4_init_72 rfl hl (by decide) rfl (fun ls hl => ?_)
  refine lv_iload_n (x := 0) hx hb dX4_init_73 rfl (lv_at hl 0 rfl) ?_
  refine lv_iconst (v := 5) hx hb dX4_init_74 (by decide) ?_
  refine lv_icmp_ge (tgt := 97) hx hb dX4_init_75 (by decide) (fun h9 => absurd h9 (by decide)) (fun _ => ?_)
  refine lv_aload_n hx hb dX4_init_78 rfl (lv_at hl 1 rfl) ?_
  refine va_get (own := RX4) (C := RX4) (T := TX4) (N := 8) (ci := 4) hx hb hts hin0 hown hK hP 0 rfl rfl 2 (by decide) (hts _ w4_12) (fun _ h9 => h9) rfl dX4_init_79 ?_
  refine lv_iload_n (x := 0) hx hb dX4_init_82 rfl (lv_at hl 0 rfl) ?_
  refine va_new (ci := 3) (fs := [.null, .int 0]) (C := RX3) (T := TX3) (N := 2) hx hb hts in4_3 tyX3 tyX3_ok hown (hts _ w4_8) (hts _ w4_9) (hts _ w4_10) hK hP hD hS hA rfl (by decide +kernel) (Nat.le_of_ble_eq_true rfl) (Nat.le_of_ble_eq_true rfl) dX4_init_83 (fun q83a H hP hD hS => ?_)
  refine lv_dup hx hb dX4_init_86 rfl ?_
  have hPc := tn_lastP hP
  have hDc := tn_lastD hD
  have hFc := tn_lastF hD hS hA
  refine va_callv (va_runIN (As := []) (rest := [.ref q83a, .int 0, .ref q28]) ⟨hx, hb, hml, hown, hts⟩ (k_X3 l D cy q83a H.size) ⟨va_cnB 0 hts gX4_init_X3_init_n18 rfl rfl rfl hC.2.2.2.1 (hts _ w4_10) (by decide +kernel) ⟨(Nat.le_of_ble_eq_true rfl), (Nat.le_of_ble_eq_true rfl)⟩, rfl, hts _ w4_30⟩ ⟨PrC.blind, fun U hU hW => ⟨rfl, by rw [hU], by rw [hU]; exact hPc, va_K.moved hW.alike hK, hDc.weaken (fun _ _ _ _ => trivial), hC.moved hW⟩⟩ rfl rfl hl.1 rfl (lv_room (Nat.le_of_ble_eq_true rfl)) dX4_init_87 ⟨(Nat.le_of_ble_eq_true rfl), (Nat.le_of_ble_eq_true rfl)⟩) hS (fun q _ h => hFc q h) hFc (fun u t H1 locs ht hvm hu hB hz1 hk1 hS => ?_)
  obtain ⟨hP1, hK1, hD1⟩ := hB
  rw [ht] at hP1
  obtain ⟨u83a, rfl⟩ := hu
  obtain ⟨hP, hD⟩ := tn_join hP hD hk1 hFc hP1 hD1
  generalize H1 = H at hP hS ⊢
  have hP : va_P D vwCl (ap (ap (ap (ap (ap (ap (sgH h0 [.ref q5, .ref q16, .ref q28, .ref q35, .ref q46, .int 0, .int 3, .int 4]) (sg2 cy q5 u5)) (sg3 cy q16 u16)) (sgA cy q28 sgF)) (sg1 cy q35 s1 s2 s3 s4 sr)) (sg0 cy q46 c1 c2 c3 cr1 cr3)) (sg3 cy q83a u83a)) H := hP
  have hD : va_D A (ap (ap (ap (ap (ap (ap (sgH h0 [.ref q5, .ref q16, .ref q28, .ref q35, .ref q46, .int 0, .int 3, .int 4]) (sg2 cy q5 u5)) (sg3 cy q16 u16)) (sgA cy q28 sgF)) (sg1 cy q35 s1 s2 s3 s4 sr)) (sg0 cy q46 c1 c2 c3 cr1 cr3)) (sg3 cy q83a u83a)) := hD
  refine va_astq (r := (RX3, TX3, 2)) hx hb hK hP hD hS 5 1 79 3 rfl rfl rfl rfl (show vp_in (nI 0) 5 from vp_in_nI (by decide) (by decide)) dX4_init_90 (fun H locs hP hD hS => ?_)
  have hP : va_P D vwCl (ap (ap (ap (ap (ap (ap (sgH h0 [.ref q5, .ref q16, .ref q28, .ref q35, .ref q46, .int 0, .int 3, .int 4]) (sg2 cy q5 u5)) (sg3 cy q16 u16)) (sgA cy q28 (va_up sgF ((0 : Int32)).toNatClampNeg (some q83a)))) (sg1 cy q35 s1 s2 s3 s4 sr)) (sg0 cy q46 c1 c2 c3 cr1 cr3)) (sg3 cy q83a u83a)) H := hP
  have hD : va_D A (ap (ap (ap (ap (ap (ap (sgH h0 [.ref q5, .ref q16, .ref q28, .ref q35, .ref q46, .int 0, .int 3, .int 4]) (sg2 cy q5 u5)) (sg3 cy q16 u16)) (sgA cy q28 (va_up sgF ((0 : Int32)).toNatClampNeg (some q83a)))) (sg1 cy q35 s1 s2 s3 s4 sr)) (sg0 cy q46 c1 c2 c3 cr1 cr3)) (sg3 cy q83a u83a)) := hD
  refine lv_iinc (v := 1) hx hb dX4_init_91 hl (k := 0) rfl (by decide) (by decide) rfl (fun ls hl => ?_)
  refine lv_goto (tgt := 73) hx hb dX4_init_94 (by decide) ?_
  refine lv_iload_n (x := 1) hx hb dX4_init_73 rfl (lv_at hl 0 rfl) ?_
  refine lv_iconst (v := 5) hx hb dX4_init_74 (by decide) ?_
  refine lv_icmp_ge (tgt := 97) hx hb dX4_init_75 (by decide) (fun h9 => absurd h9 (by decide)) (fun _ => ?_)
  refine lv_aload_n hx hb dX4_init_78 rfl (lv_at hl 1 rfl) ?_
  refine va_get (own := RX4) (C := RX4) (T := TX4) (N := 8) (ci := 4) hx hb hts hin0 hown hK hP 0 rfl rfl 2 (by decide) (hts _ w4_12) (fun _ h9 => h9) rfl dX4_init_79 ?_
  refine lv_iload_n (x := 1) hx hb dX4_init_82 rfl (lv_at hl 0 rfl) ?_
  refine va_new (ci := 3) (fs := [.null, .int 0]) (C := RX3) (T := TX3) (N := 2) hx hb hts in4_3 tyX3 tyX3_ok hown (hts _ w4_8) (hts _ w4_9) (hts _ w4_10) hK hP hD hS hA rfl (by decide +kernel) (Nat.le_of_ble_eq_true rfl) (Nat.le_of_ble_eq_true rfl) dX4_init_83 (fun q83b H hP hD hS => ?_)
  refine lv_dup hx hb dX4_init_86 rfl ?_
  have hPc := tn_lastP hP
  have hDc := tn_lastD hD
  have hFc := tn_lastF hD hS hA
  refine va_callv (va_runIN (As := []) (rest := [.ref q83b, .int 1, .ref q28]) ⟨hx, hb, hml, hown, hts⟩ (k_X3 l D cy q83b H.size) ⟨va_cnB 0 hts gX4_init_X3_init_n18 rfl rfl rfl hC.2.2.2.1 (hts _ w4_10) (by decide +kernel) ⟨(Nat.le_of_ble_eq_true rfl), (Nat.le_of_ble_eq_true rfl)⟩, rfl, hts _ w4_30⟩ ⟨PrC.blind, fun U hU hW => ⟨rfl, by rw [hU], by rw [hU]; exact hPc, va_K.moved hW.alike hK, hDc.weaken (fun _ _ _ _ => trivial), hC.moved hW⟩⟩ rfl rfl hl.1 rfl (lv_room (Nat.le_of_ble_eq_true rfl)) dX4_init_87 ⟨(Nat.le_of_ble_eq_true rfl), (Nat.le_of_ble_eq_true rfl)⟩) hS (fun q _ h => hFc q h) hFc (fun u t H1 locs ht hvm hu hB hz1 hk1 hS => ?_)
  obtain ⟨hP1, hK1, hD1⟩ := hB
  rw [ht] at hP1
  obtain ⟨u83b, rfl⟩ := hu
  obtain ⟨hP, hD⟩ := tn_join hP hD hk1 hFc hP1 hD1
  generalize H1 = H at hP hS ⊢
  have hP : va_P D vwCl (ap (ap (ap (ap (ap (ap (ap (sgH h0 [.ref q5, .ref q16, .ref q28, .ref q35, .ref q46, .int 0, .int 3, .int 4]) (sg2 cy q5 u5)) (sg3 cy q16 u16)) (sgA cy q28 (va_up sgF ((0 : Int32)).toNatClampNeg (some q83a)))) (sg1 cy q35 s1 s2 s3 s4 sr)) (sg0 cy q46 c1 c2 c3 cr1 cr3)) (sg3 cy q83a u83a)) (sg3 cy q83b u83b)) H := hP
  have hD : va_D A (ap (ap (ap (ap (ap (ap (ap (sgH h0 [.ref q5, .ref q16, .ref q28, .ref q35, .ref q46, .int 0, .int 3, .int 4]) (sg2 cy q5 u5)) (sg3 cy q16 u16)) (sgA cy q28 (va_up sgF ((0 : Int32)).toNatClampNeg (some q83a)))) (sg1 cy q35 s1 s2 s3 s4 sr)) (sg0 cy q46 c1 c2 c3 cr1 cr3)) (sg3 cy q83a u83a)) (sg3 cy q83b u83b)) := hD
  refine va_astq (r := (RX3, TX3, 2)) hx hb hK hP hD hS 5 1 81 3 rfl rfl rfl rfl (show vp_in (nI 1) 5 from vp_in_nI (by decide) (by decide)) dX4_init_90 (fun H locs hP hD hS => ?_)
  have hP : va_P D vwCl (ap (ap (ap (ap (ap (ap (ap (sgH h0 [.ref q5, .ref q16, .ref q28, .ref q35, .ref q46, .int 0, .int 3, .int 4]) (sg2 cy q5 u5)) (sg3 cy q16 u16)) (sgA cy q28 (va_up (va_up sgF ((0 : Int32)).toNatClampNeg (some q83a)) ((1 : Int32)).toNatClampNeg (some q83b)))) (sg1 cy q35 s1 s2 s3 s4 sr)) (sg0 cy q46 c1 c2 c3 cr1 cr3)) (sg3 cy q83a u83a)) (sg3 cy q83b u83b)) H := hP
  have hD : va_D A (ap (ap (ap (ap (ap (ap (ap (sgH h0 [.ref q5, .ref q16, .ref q28, .ref q35, .ref q46, .int 0, .int 3, .int 4]) (sg2 cy q5 u5)) (sg3 cy q16 u16)) (sgA cy q28 (va_up (va_up sgF ((0 : Int32)).toNatClampNeg (some q83a)) ((1 : Int32)).toNatClampNeg (some q83b)))) (sg1 cy q35 s1 s2 s3 s4 sr)) (sg0 cy q46 c1 c2 c3 cr1 cr3)) (sg3 cy q83a u83a)) (sg3 cy q83b u83b)) := hD
  refine lv_iinc (v := 2) hx hb dX4_init_91 hl (k := 0) rfl (by decide) (by decide) rfl (fun ls hl => ?_)
  refine lv_goto (tgt := 73) hx hb dX4_init_94 (by decide) ?_
  refine lv_iload_n (x := 2) hx hb dX4_init_73 rfl (lv_at hl 0 rfl) ?_
  refine lv_iconst (v := 5) hx hb dX4_init_74 (by decide) ?_
  refine lv_icmp_ge (tgt := 97) hx hb dX4_init_75 (by decide) (fun h9 => absurd h9 (by decide)) (fun _ => ?_)
  refine lv_aload_n hx hb dX4_init_78 rfl (lv_at hl 1 rfl) ?_
  refine va_get (own := RX4) (C := RX4) (T := TX4) (N := 8) (ci := 4) hx hb hts hin0 hown hK hP 0 rfl rfl 2 (by decide) (hts _ w4_12) (fun _ h9 => h9) rfl dX4_init_79 ?_
  refine lv_iload_n (x := 2) hx hb dX4_init_82 rfl (lv_at hl 0 rfl) ?_
  refine va_new (ci := 3) (fs := [.null, .int 0]) (C := RX3) (T := TX3) (N := 2) hx hb hts in4_3 tyX3 tyX3_ok hown (hts _ w4_8) (hts _ w4_9) (hts _ w4_10) hK hP hD hS hA rfl (by decide +kernel) (Nat.le_of_ble_eq_true rfl) (Nat.le_of_ble_eq_true rfl) dX4_init_83 (fun q83c H hP hD hS => ?_)
  refine lv_dup hx hb dX4_init_86 rfl ?_
  have hPc := tn_lastP hP
  have hDc := tn_lastD hD
  have hFc := tn_lastF hD hS hA
  refine va_callv (va_runIN (As := []) (rest := [.ref q83c, .int 2, .ref q28]) ⟨hx, hb, hml, hown, hts⟩ (k_X3 l D cy q83c H.size) ⟨va_cnB 0 hts gX4_init_X3_init_n18 rfl rfl rfl hC.2.2.2.1 (hts _ w4_10) (by decide +kernel) ⟨(Nat.le_of_ble_eq_true rfl), (Nat.le_of_ble_eq_true rfl)⟩, rfl, hts _ w4_30⟩ ⟨PrC.blind, fun U hU hW => ⟨rfl, by rw [hU], by rw [hU]; exact hPc, va_K.moved hW.alike hK, hDc.weaken (fun _ _ _ _ => trivial), hC.moved hW⟩⟩ rfl rfl hl.1 rfl (lv_room (Nat.le_of_ble_eq_true rfl)) dX4_init_87 ⟨(Nat.le_of_ble_eq_true rfl), (Nat.le_of_ble_eq_true rfl)⟩) hS (fun q _ h => hFc q h) hFc (fun u t H1 locs ht hvm hu hB hz1 hk1 hS => ?_)
  obtain ⟨hP1, hK1, hD1⟩ := hB
  rw [ht] at hP1
  obtain ⟨u83c, rfl⟩ := hu
  obtain ⟨hP, hD⟩ := tn_join hP hD hk1 hFc hP1 hD1
  generalize H1 = H at hP hS ⊢
  have hP : va_P D vwCl (ap (ap (ap (ap (ap (ap (ap (ap (sgH h0 [.ref q5, .ref q16, .ref q28, .ref q35, .ref q46, .int 0, .int 3, .int 4]) (sg2 cy q5 u5)) (sg3 cy q16 u16)) (sgA cy q28 (va_up (va_up sgF ((0 : Int32)).toNatClampNeg (some q83a)) ((1 : Int32)).toNatClampNeg (some q83b)))) (sg1 cy q35 s1 s2 s3 s4 sr)) (sg0 cy q46 c1 c2 c3 cr1 cr3)) (sg3 cy q83a u83a)) (sg3 cy q83b u83b)) (sg3 cy q83c u83c)) H := hP
  have hD : va_D A (ap (ap (ap (ap (ap (ap (ap (ap (sgH h0 [.ref q5, .ref q16, .ref q28, .ref q35, .ref q46, .int 0, .int 3, .int 4]) (sg2 cy q5 u5)) (sg3 cy q16 u16)) (sgA cy q28 (va_up (va_up sgF ((0 : Int32)).toNatClampNeg (some q83a)) ((1 : Int32)).toNatClampNeg (some q83b)))) (sg1 cy q35 s1 s2 s3 s4 sr)) (sg0 cy q46 c1 c2 c3 cr1 cr3)) (sg3 cy q83a u83a)) (sg3 cy q83b u83b)) (sg3 cy q83c u83c)) := hD
  refine va_astq (r := (RX3, TX3, 2)) hx hb hK hP hD hS 5 1 83 3 rfl rfl rfl rfl (show vp_in (nI 2) 5 from vp_in_nI (by decide) (by decide)) dX4_init_90 (fun H locs hP hD hS => ?_)
  have hP : va_P D vwCl (ap (ap (ap (ap (ap (ap (ap (ap (sgH h0 [.ref q5, .ref q16, .ref q28, .ref q35, .ref q46, .int 0, .int 3, .int 4]) (sg2 cy q5 u5)) (sg3 cy q16 u16)) (sgA cy q28 (va_up (va_up (va_up sgF ((0 : Int32)).toNatClampNeg (some q83a)) ((1 : Int32)).toNatClampNeg (some q83b)) ((2 : Int32)).toNatClampNeg (some q83c)))) (sg1 cy q35 s1 s2 s3 s4 sr)) (sg0 cy q46 c1 c2 c3 cr1 cr3)) (sg3 cy q83a u83a)) (sg3 cy q83b u83b)) (sg3 cy q83c u83c)) H := hP
  have hD : va_D A (ap (ap (ap (ap (ap (ap (ap (ap (sgH h0 [.ref q5, .ref q16, .ref q28, .ref q35, .ref q46, .int 0, .int 3, .int 4]) (sg2 cy q5 u5)) (sg3 cy q16 u16)) (sgA cy q28 (va_up (va_up (va_up sgF ((0 : Int32)).toNatClampNeg (some q83a)) ((1 : Int32)).toNatClampNeg (some q83b)) ((2 : Int32)).toNatClampNeg (some q83c)))) (sg1 cy q35 s1 s2 s3 s4 sr)) (sg0 cy q46 c1 c2 c3 cr1 cr3)) (sg3 cy q83a u83a)) (sg3 cy q83b u83b)) (sg3 cy q83c u83c)) := hD
  refine lv_iinc (v := 3) hx hb dX4_init_91 hl (k := 0) rfl (by decide) (by decide) rfl (fun ls hl => ?_)
  refine lv_goto (tgt := 73) hx hb dX4_init_94 (by decide) ?_
  refine lv_iload_n (x := 3) hx hb dX4_init_73 rfl (lv_at hl 0 rfl) ?_
  refine lv_iconst (v := 5) hx hb dX4_init_74 (by decide) ?_
  refine lv_icmp_ge (tgt := 97) hx hb dX4_init_75 (by decide) (fun h9 => absurd h9 (by decide)) (fun _ => ?_)
  refine lv_aload_n hx hb dX4_init_78 rfl (lv_at hl 1 rfl) ?_
  refine va_get (own := RX4) (C := RX4) (T := TX4) (N := 8) (ci := 4) hx hb hts hin0 hown hK hP 0 rfl rfl 2 (by decide) (hts _ w4_12) (fun _ h9 => h9) rfl dX4_init_79 ?_
  refine lv_iload_n (x := 3) hx hb dX4_init_82 rfl (lv_at hl 0 rfl) ?_
  refine va_new (ci := 3) (fs := [.null, .int 0]) (C := RX3) (T := TX3) (N := 2) hx hb hts in4_3 tyX3 tyX3_ok hown (hts _ w4_8) (hts _ w4_9) (hts _ w4_10) hK hP hD hS hA rfl (by decide +kernel) (Nat.le_of_ble_eq_true rfl) (Nat.le_of_ble_eq_true rfl) dX4_init_83 (fun q83d H hP hD hS => ?_)
  refine lv_dup hx hb dX4_init_86 rfl ?_
  have hPc := tn_lastP hP
  have hDc := tn_lastD hD
  have hFc := tn_lastF hD hS hA
  refine va_callv (va_runIN (As := []) (rest := [.ref q83d, .int 3, .ref q28]) ⟨hx, hb, hml, hown, hts⟩ (k_X3 l D cy q83d H.size) ⟨va_cnB 0 hts gX4_init_X3_init_n18 rfl rfl rfl hC.2.2.2.1 (hts _ w4_10) (by decide +kernel) ⟨(Nat.le_of_ble_eq_true rfl), (Nat.le_of_ble_eq_true rfl)⟩, rfl, hts _ w4_30⟩ ⟨PrC.blind, fun U hU hW => ⟨rfl, by rw [hU], by rw [hU]; exact hPc, va_K.moved hW.alike hK, hDc.weaken (fun _ _ _ _ => trivial), hC.moved hW⟩⟩ rfl rfl hl.1 rfl (lv_room (Nat.le_of_ble_eq_true rfl)) dX4_init_87 ⟨(Nat.le_of_ble_eq_true rfl), (Nat.le_of_ble_eq_true rfl)⟩) hS (fun q _ h => hFc q h) hFc (fun u t H1 locs ht hvm hu hB hz1 hk1 hS => ?_)
  obtain ⟨hP1, hK1, hD1⟩ := hB
  rw [ht] at hP1
  obtain ⟨u83d, rfl⟩ := hu
  obtain ⟨hP, hD⟩ := tn_join hP hD hk1 hFc hP1 hD1
  generalize H1 = H at hP hS ⊢
  have hP : va_P D vwCl (ap (ap (ap (ap (ap (ap (ap (ap (ap (sgH h0 [.ref q5, .ref q16, .ref q28, .ref q35, .ref q46, .int 0, .int 3, .int 4]) (sg2 cy q5 u5)) (sg3 cy q16 u16)) (sgA cy q28 (va_up (va_up (va_up sgF ((0 : Int32)).toNatClampNeg (some q83a)) ((1 : Int32)).toNatClampNeg (some q83b)) ((2 : Int32)).toNatClampNeg (some q83c)))) (sg1 cy q35 s1 s2 s3 s4 sr)) (sg0 cy q46 c1 c2 c3 cr1 cr3)) (sg3 cy q83a u83a)) (sg3 cy q83b u83b)) (sg3 cy q83c u83c)) (sg3 cy q83d u83d)) H := hP
  have hD : va_D A (ap (ap (ap (ap (ap (ap (ap (ap (ap (sgH h0 [.ref q5, .ref q16, .ref q28, .ref q35, .ref q46, .int 0, .int 3, .int 4]) (sg2 cy q5 u5)) (sg3 cy q16 u16)) (sgA cy q28 (va_up (va_up (va_up sgF ((0 : Int32)).toNatClampNeg (some q83a)) ((1 : Int32)).toNatClampNeg (some q83b)) ((2 : Int32)).toNatClampNeg (some q83c)))) (sg1 cy q35 s1 s2 s3 s4 sr)) (sg0 cy q46 c1 c2 c3 cr1 cr3)) (sg3 cy q83a u83a)) (sg3 cy q83b u83b)) (sg3 cy q83c u83c)) (sg3 cy q83d u83d)) := hD
  refine va_astq (r := (RX3, TX3, 2)) hx hb hK hP hD hS 5 1 85 3 rfl rfl rfl rfl (show vp_in (nI 3) 5 from vp_in_nI (by decide) (by decide)) dX4_init_90 (fun H locs hP hD hS => ?_)
  have hP : va_P D vwCl (ap (ap (ap (ap (ap (ap (ap (ap (ap (sgH h0 [.ref q5, .ref q16, .ref q28, .ref q35, .ref q46, .int 0, .int 3, .int 4]) (sg2 cy q5 u5)) (sg3 cy q16 u16)) (sgA cy q28 (va_up (va_up (va_up (va_up sgF ((0 : Int32)).toNatClampNeg (some q83a)) ((1 : Int32)).toNatClampNeg (some q83b)) ((2 : Int32)).toNatClampNeg (some q83c)) ((3 : Int32)).toNatClampNeg (some q83d)))) (sg1 cy q35 s1 s2 s3 s4 sr)) (sg0 cy q46 c1 c2 c3 cr1 cr3)) (sg3 cy q83a u83a)) (sg3 cy q83b u83b)) (sg3 cy q83c u83c)) (sg3 cy q83d u83d)) H := hP
  have hD : va_D A (ap (ap (ap (ap (ap (ap (ap (ap (ap (sgH h0 [.ref q5, .ref q16, .ref q28, .ref q35, .ref q46, .int 0, .int 3, .int 4]) (sg2 cy q5 u5)) (sg3 cy q16 u16)) (sgA cy q28 (va_up (va_up (va_up (va_up sgF ((0 : Int32)).toNatClampNeg (some q83a)) ((1 : Int32)).toNatClampNeg (some q83b)) ((2 : Int32)).toNatClampNeg (some q83c)) ((3 : Int32)).toNatClampNeg (some q83d)))) (sg1 cy q35 s1 s2 s3 s4 sr)) (sg0 cy q46 c1 c2 c3 cr1 cr3)) (sg3 cy q83a u83a)) (sg3 cy q83b u83b)) (sg3 cy q83c u83c)) (sg3 cy q83d u83d)) := hD
  refine lv_iinc (v := 4) hx hb dX4_init_91 hl (k := 0) rfl (by decide) (by decide) rfl (fun ls hl => ?_)
  refine lv_goto (tgt := 73) hx hb dX4_init_94 (by decide) ?_
  refine lv_iload_n (x := 4) hx hb dX4_init_73 rfl (lv_at hl 0 rfl) ?_
  refine lv_iconst (v := 5) hx hb dX4_init_74 (by decide) ?_
  refine lv_icmp_ge (tgt := 97) hx hb dX4_init_75 (by decide) (fun h9 => absurd h9 (by decide)) (fun _ => ?_)
  refine lv_aload_n hx hb dX4_init_78 rfl (lv_at hl 1 rfl) ?_
  refine va_get (own := RX4) (C := RX4) (T := TX4) (N := 8) (ci := 4) hx hb hts hin0 hown hK hP 0 rfl rfl 2 (by decide) (hts _ w4_12) (fun _ h9 => h9) rfl dX4_init_79 ?_
  refine lv_iload_n (x := 4) hx hb dX4_init_82 rfl (lv_at hl 0 rfl) ?_
  refine va_new (ci := 3) (fs := [.null, .int 0]) (C := RX3) (T := TX3) (N := 2) hx hb hts in4_3 tyX3 tyX3_ok hown (hts _ w4_8) (hts _ w4_9) (hts _ w4_10) hK hP hD hS hA rfl (by decide +kernel) (Nat.le_of_ble_eq_true rfl) (Nat.le_of_ble_eq_true rfl) dX4_init_83 (fun q83e H hP hD hS => ?_)
  refine lv_dup hx hb dX4_init_86 rfl ?_
  have hPc := tn_lastP hP
  have hDc := tn_lastD hD
  have hFc := tn_lastF hD hS hA
  refine va_callv (va_runIN (As := []) (rest := [.ref q83e, .int 4, .ref q28]) ⟨hx, hb, hml, hown, hts⟩ (k_X3 l D cy q83e H.size) ⟨va_cnB 0 hts gX4_init_X3_init_n18 rfl rfl rfl hC.2.2.2.1 (hts _ w4_10) (by decide +kernel) ⟨(Nat.le_of_ble_eq_true rfl), (Nat.le_of_ble_eq_true rfl)⟩, rfl, hts _ w4_30⟩ ⟨PrC.blind, fun U hU hW => ⟨rfl, by rw [hU], by rw [hU]; exact hPc, va_K.moved hW.alike hK, hDc.weaken (fun _ _ _ _ => trivial), hC.moved hW⟩⟩ rfl rfl hl.1 rfl (lv_room (Nat.le_of_ble_eq_true rfl)) dX4_init_87 ⟨(Nat.le_of_ble_eq_true rfl), (Nat.le_of_ble_eq_true rfl)⟩) hS (fun q _ h => hFc q h) hFc (fun u t H1 locs ht hvm hu hB hz1 hk1 hS => ?_)
  obtain ⟨hP1, hK1, hD1⟩ := hB
  rw [ht] at hP1
  obtain ⟨u83e, rfl⟩ := hu
  obtain ⟨hP, hD⟩ := tn_join hP hD hk1 hFc hP1 hD1
  generalize H1 = H at hP hS ⊢
  have hP : va_P D vwCl (ap (ap (ap (ap (ap (ap (ap (ap (ap (ap (sgH h0 [.ref q5, .ref q16, .ref q28, .ref q35, .ref q46, .int 0, .int 3, .int 4]) (sg2 cy q5 u5)) (sg3 cy q16 u16)) (sgA cy q28 (va_up (va_up (va_up (va_up sgF ((0 : Int32)).toNatClampNeg (some q83a)) ((1 : Int32)).toNatClampNeg (some q83b)) ((2 : Int32)).toNatClampNeg (some q83c)) ((3 : Int32)).toNatClampNeg (some q83d)))) (sg1 cy q35 s1 s2 s3 s4 sr)) (sg0 cy q46 c1 c2 c3 cr1 cr3)) (sg3 cy q83a u83a)) (sg3 cy q83b u83b)) (sg3 cy q83c u83c)) (sg3 cy q83d u83d)) (sg3 cy q83e u83e)) H := hP
  have hD : va_D A (ap (ap (ap (ap (ap (ap (ap (ap (ap (ap (sgH h0 [.ref q5, .ref q16, .ref q28, .ref q35, .ref q46, .int 0, .int 3, .int 4]) (sg2 cy q5 u5)) (sg3 cy q16 u16)) (sgA cy q28 (va_up (va_up (va_up (va_up sgF ((0 : Int32)).toNatClampNeg (some q83a)) ((1 : Int32)).toNatClampNeg (some q83b)) ((2 : Int32)).toNatClampNeg (some q83c)) ((3 : Int32)).toNatClampNeg (some q83d)))) (sg1 cy q35 s1 s2 s3 s4 sr)) (sg0 cy q46 c1 c2 c3 cr1 cr3)) (sg3 cy q83a u83a)) (sg3 cy q83b u83b)) (sg3 cy q83c u83c)) (sg3 cy q83d u83d)) (sg3 cy q83e u83e)) := hD
  refine va_astq (r := (RX3, TX3, 2)) hx hb hK hP hD hS 5 1 87 3 rfl rfl rfl rfl (show vp_in (nI 4) 5 from vp_in_nI (by decide) (by decide)) dX4_init_90 (fun H locs hP hD hS => ?_)
  have hP : va_P D vwCl (ap (ap (ap (ap (ap (ap (ap (ap (ap (ap (sgH h0 [.ref q5, .ref q16, .ref q28, .ref q35, .ref q46, .int 0, .int 3, .int 4]) (sg2 cy q5 u5)) (sg3 cy q16 u16)) (sgA cy q28 (va_up (va_up (va_up (va_up (va_up sgF ((0 : Int32)).toNatClampNeg (some q83a)) ((1 : Int32)).toNatClampNeg (some q83b)) ((2 : Int32)).toNatClampNeg (some q83c)) ((3 : Int32)).toNatClampNeg (some q83d)) ((4 : Int32)).toNatClampNeg (some q83e)))) (sg1 cy q35 s1 s2 s3 s4 sr)) (sg0 cy q46 c1 c2 c3 cr1 cr3)) (sg3 cy q83a u83a)) (sg3 cy q83b u83b)) (sg3 cy q83c u83c)) (sg3 cy q83d u83d)) (sg3 cy q83e u83e)) H := hP
  have hD : va_D A (ap (ap (ap (ap (ap (ap (ap (ap (ap (ap (sgH h0 [.ref q5, .ref q16, .ref q28, .ref q35, .ref q46, .int 0, .int 3, .int 4]) (sg2 cy q5 u5)) (sg3 cy q16 u16)) (sgA cy q28 (va_up (va_up (va_up (va_up (va_up sgF ((0 : Int32)).toNatClampNeg (some q83a)) ((1 : Int32)).toNatClampNeg (some q83b)) ((2 : Int32)).toNatClampNeg (some q83c)) ((3 : Int32)).toNatClampNeg (some q83d)) ((4 : Int32)).toNatClampNeg (some q83e)))) (sg1 cy q35 s1 s2 s3 s4 sr)) (sg0 cy q46 c1 c2 c3 cr1 cr3)) (sg3 cy q83a u83a)) (sg3 cy q83b u83b)) (sg3 cy q83c u83c)) (sg3 cy q83d u83d)) (sg3 cy q83e u83e)) := hD
  refine lv_iinc (v := 5) hx hb dX4_init_91 hl (k := 0) rfl (by decide) (by decide) rfl (fun ls hl => ?_)
  refine lv_goto (tgt := 73) hx hb dX4_init_94 (by decide) ?_
  refine lv_iload_n (x := 5) hx hb dX4_init_73 rfl (lv_at hl 0 rfl) ?_
  refine lv_iconst (v := 5) hx hb dX4_init_74 (by decide) ?_
  refine lv_icmp_ge (tgt := 97) hx hb dX4_init_75 (by decide) (fun _ => ?_) (fun h9 => absurd (by decide) h9)
  refine W.widen (k := 88) (n := 1113) (Nat.le_of_ble_eq_true rfl) (Nat.le_of_ble_eq_true rfl) ?_
  exact W.vret hx hb hr (fun t ht hW => ⟨⟨_, rfl, ⟨q5, u5, q16, u16, q28, q35, s1, s2, s3, s4, q46, c1, c2, c3, q83a, u83a, q83b, u83b, q83c, u83c, q83d, u83d, q83e, u83e, sr, cr1, cr3, rfl⟩, by rw [ht]; exact hP, va_K.moved hW.alike hK, hD⟩, hS.F ht⟩) hS.2.2 dX4_init_97
